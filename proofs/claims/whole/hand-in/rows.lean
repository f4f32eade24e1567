section
-- ===== PART A: goes FIRST, ahead of the names: the tables' words, and 'selects' of the private methods out of them =====
/-- a private method of a class that the tables say can be made, by its rows of tables_1 -/
def lw_okq (q : MethodName × Nat) : Prop := (q.1.cls ≠ "java/lang/invoke/MethodHandle" ∧ q.1.cls ≠ "java/lang/invoke/VarHandle") ∧ Cond.instantiable q.1.cls q.2 ∈ tables_1 ∧ Cond.privateMethod q.1 ∈ tables_1 ∧ Cond.instanceMethod q.1 ∈ tables_1
theorem lw_p0 : lw_okq (⟨"PostDesk2", "refusalOf", "(II)J"⟩, 14) := ⟨⟨by decide +kernel, by decide +kernel⟩, List.mem_of_getElem? (i := 4) (by decide +kernel), List.mem_of_getElem? (i := 86) (by decide +kernel), List.mem_of_getElem? (i := 87) (by decide +kernel)⟩
theorem lw_p1 : lw_okq (⟨"PostDesk2", "replyTo", "(JIJ)J"⟩, 14) := ⟨⟨by decide +kernel, by decide +kernel⟩, List.mem_of_getElem? (i := 4) (by decide +kernel), List.mem_of_getElem? (i := 100) (by decide +kernel), List.mem_of_getElem? (i := 101) (by decide +kernel)⟩
theorem lw_p2 : lw_okq (⟨"PostDesk2", "logBehind", "(JIIJ)J"⟩, 14) := ⟨⟨by decide +kernel, by decide +kernel⟩, List.mem_of_getElem? (i := 4) (by decide +kernel), List.mem_of_getElem? (i := 105) (by decide +kernel), List.mem_of_getElem? (i := 106) (by decide +kernel)⟩
theorem lw_p3 : lw_okq (⟨"PostDesk2", "settle", "(JII)V"⟩, 14) := ⟨⟨by decide +kernel, by decide +kernel⟩, List.mem_of_getElem? (i := 4) (by decide +kernel), List.mem_of_getElem? (i := 112) (by decide +kernel), List.mem_of_getElem? (i := 113) (by decide +kernel)⟩
theorem lw_p4 : lw_okq (⟨"PostDesk2Model", "way", "(II)I"⟩, 13) := ⟨⟨by decide +kernel, by decide +kernel⟩, List.mem_of_getElem? (i := 137) (by decide +kernel), List.mem_of_getElem? (i := 217) (by decide +kernel), List.mem_of_getElem? (i := 218) (by decide +kernel)⟩
theorem lw_p5 : lw_okq (⟨"PostDesk2Model", "told", "(IIJ)J"⟩, 13) := ⟨⟨by decide +kernel, by decide +kernel⟩, List.mem_of_getElem? (i := 137) (by decide +kernel), List.mem_of_getElem? (i := 221) (by decide +kernel), List.mem_of_getElem? (i := 222) (by decide +kernel)⟩
theorem lw_p6 : lw_okq (⟨"PostDesk2Model", "logBehind", "(IIIJ)J"⟩, 13) := ⟨⟨by decide +kernel, by decide +kernel⟩, List.mem_of_getElem? (i := 137) (by decide +kernel), List.mem_of_getElem? (i := 230) (by decide +kernel), List.mem_of_getElem? (i := 231) (by decide +kernel)⟩
def lw_privs_1 : List (MethodName × Nat) := [(⟨"PostDesk2", "refusalOf", "(II)J"⟩, 14), (⟨"PostDesk2", "replyTo", "(JIJ)J"⟩, 14), (⟨"PostDesk2", "logBehind", "(JIIJ)J"⟩, 14), (⟨"PostDesk2", "settle", "(JII)V"⟩, 14), (⟨"PostDesk2Model", "way", "(II)I"⟩, 13), (⟨"PostDesk2Model", "told", "(IIJ)J"⟩, 13), (⟨"PostDesk2Model", "logBehind", "(IIIJ)J"⟩, 13)]
theorem lw_r1 : ∀ q ∈ lw_privs_1, lw_okq q := List.forall_mem_cons.mpr ⟨lw_p0, List.forall_mem_cons.mpr ⟨lw_p1, List.forall_mem_cons.mpr ⟨lw_p2, List.forall_mem_cons.mpr ⟨lw_p3, List.forall_mem_cons.mpr ⟨lw_p4, List.forall_mem_cons.mpr ⟨lw_p5, List.forall_mem_cons.mpr ⟨lw_p6, fun _ h => absurd h List.not_mem_nil⟩⟩⟩⟩⟩⟩⟩
def lw_privs : List (MethodName × Nat) := lw_privs_1
def lw_tbl : List Cond := k2_sels lw_privs ++ tables_1
theorem lw_privs_ok : ∀ q ∈ lw_privs, lw_okq q := lw_r1

/-! ===== BEGIN words of one list among another's, by their places ===== -/
theorem goodIn_r {big : List Cond} (ws : List Cond) (ps : List Nat) (hp : ws = ps.filterMap (fun i => big[i]?)) (h : ws.all goodWord = true) : GoodIn big ws := by
  intro w hw
  have h1 := List.all_eq_true.mp h w hw
  rw [hp] at hw
  obtain ⟨i, -, hi⟩ := List.mem_filterMap.mp hw
  have hm : w ∈ big := by first | exact List.mem_of_getElem? hi | exact List.getElem?_mem hi
  exact ⟨hm, good_of_word h1⟩
theorem goodIn_app {big a b : List Cond} (ha : GoodIn big a) (hb : GoodIn big b) : GoodIn big (a ++ b) := fun w h => (List.mem_append.mp h).elim (ha w) (hb w)
theorem goodIn_ca {big a b : List Cond} {c : Cond} (ha : GoodIn big (c :: a)) (hb : GoodIn big b) : GoodIn big (c :: (a ++ b)) := fun w h => (List.mem_cons.mp h).elim (fun e => ha w (List.mem_cons.mpr (Or.inl e))) (fun h => (List.mem_append.mp h).elim (fun h => ha w (List.mem_cons.mpr (Or.inr h))) (hb w))
theorem goodIn_sub {big ws : List Cond} (hm : ∀ w ∈ ws, w ∈ big) (h : ws.all goodWord = true) : GoodIn big ws := fun w hw => ⟨hm w hw, good_of_word (List.all_eq_true.mp h w hw)⟩
/-! ===== END ===== -/

/-! ===== BEGIN printed: names, fields, word lists, decode rows ===== -/
def RX0 : String := "PostDesk2"
def TX0 : u_T := fun k => match k with
  | 0 => ("PostDesk2", "made", "[I", true)
  | 1 => ("PostDesk2", "presentOfKind", "[I", true)
  | 2 => ("PostDesk2", "present", "[Z", true)
  | 3 => ("PostDesk2", "values", "[J", true)
  | 4 => ("PostDesk2", "failures", "[I", true)
  | 5 => ("PostDesk2", "collected", "I", false)
  | 6 => ("PostDesk2", "digest", "J", false)
  | 7 => ("PostDesk2", "answeredCalls", "J", false)
  | 8 => ("PostDesk2", "refusedCalls", "J", false)
  | 9 => ("PostDesk2", "failedCalls", "J", false)
  | 10 => ("PostDesk2", "latestFailure", "I", false)
  | 11 => ("PostDesk2", "latestNumber", "I", false)
  | 12 => ("PostDesk2", "latestCall", "I", false)
  | _ => ("PostDesk2", "logged", "J", false)
def tyX0 : Nat → FieldType := fun k => match k with
  | 0 => .array .int
  | 1 => .array .int
  | 2 => .array .boolean
  | 3 => .array .long
  | 4 => .array .int
  | 5 => .int
  | 6 => .long
  | 7 => .long
  | 8 => .long
  | 9 => .long
  | 10 => .int
  | 11 => .int
  | 12 => .int
  | _ => .long
abbrev wsX00 : List Cond := u_ws RX0 TX0 14
theorem nmX0 : ∀ a, a < 14 → ∀ b, b < 14 → a ≠ b → (TX0 a).2.1 ≠ (TX0 b).2.1 := by decide +kernel
theorem tyX0_ok : ∀ k, k < 14 → parseFieldDescriptor (TX0 k).2.2.1 = some (tyX0 k) := by decide +kernel
abbrev cX0_init : ByteArray := prog_1_method_1_code
def yX0_init : MethodName := ⟨RX0, "<init>", "()V"⟩
abbrev cX0_collect : ByteArray := prog_1_method_2_code
def yX0_collect : MethodName := ⟨RX0, "collect", "(J)I"⟩
abbrev cX0_answer : ByteArray := prog_1_method_3_code
def yX0_answer : MethodName := ⟨RX0, "answer", "(IJ)I"⟩
abbrev cX0_fails : ByteArray := prog_1_method_4_code
def yX0_fails : MethodName := ⟨RX0, "fails", "(II)I"⟩
abbrev cX0_make : ByteArray := prog_1_method_5_code
def yX0_make : MethodName := ⟨RX0, "make", "(I)I"⟩
abbrev cX0_call : ByteArray := prog_1_method_6_code
def yX0_call : MethodName := ⟨RX0, "call", "(IIJ)J"⟩
abbrev cX0_told : ByteArray := prog_1_method_7_code
def yX0_told : MethodName := ⟨RX0, "told", "(I)J"⟩
abbrev cX0_drop : ByteArray := prog_1_method_8_code
def yX0_drop : MethodName := ⟨RX0, "drop", "(I)Z"⟩
abbrev cX0_numbers : ByteArray := prog_1_method_9_code
def yX0_numbers : MethodName := ⟨RX0, "numbers", "(I)I"⟩
abbrev cX0_isThere : ByteArray := prog_1_method_10_code
def yX0_isThere : MethodName := ⟨RX0, "isThere", "(I)Z"⟩
abbrev cX0_again : ByteArray := prog_1_method_11_code
def yX0_again : MethodName := ⟨RX0, "again", "(IIJ)J"⟩
abbrev cX0_log : ByteArray := prog_1_method_12_code
def yX0_log : MethodName := ⟨RX0, "log", "(IIJ)J"⟩
abbrev cX0_isCall : ByteArray := prog_1_method_13_code
def yX0_isCall : MethodName := ⟨RX0, "isCall", "(I)Z"⟩
abbrev cX0_isKind : ByteArray := prog_1_method_14_code
def yX0_isKind : MethodName := ⟨RX0, "isKind", "(I)Z"⟩
abbrev cX0_placeOf : ByteArray := prog_1_method_15_code
def yX0_placeOf : MethodName := ⟨RX0, "placeOf", "(I)I"⟩
abbrev cX0_refusalOf : ByteArray := prog_1_method_16_code
def yX0_refusalOf : MethodName := ⟨RX0, "refusalOf", "(II)J"⟩
abbrev cX0_replyTo : ByteArray := prog_1_method_17_code
def yX0_replyTo : MethodName := ⟨RX0, "replyTo", "(JIJ)J"⟩
abbrev cX0_logBehind : ByteArray := prog_1_method_18_code
def yX0_logBehind : MethodName := ⟨RX0, "logBehind", "(JIIJ)J"⟩
abbrev cX0_settle : ByteArray := prog_1_method_19_code
def yX0_settle : MethodName := ⟨RX0, "settle", "(JII)V"⟩
def RX1 : String := "PostDesk2Model"
def TX1 : u_T := fun k => match k with
  | 0 => ("PostDesk2Model", "collected", "[J", true)
  | 1 => ("PostDesk2Model", "many", "I", false)
  | 2 => ("PostDesk2Model", "value", "[J", true)
  | 3 => ("PostDesk2Model", "failure", "[I", true)
  | 4 => ("PostDesk2Model", "made", "[I", true)
  | 5 => ("PostDesk2Model", "there", "[Z", true)
  | 6 => ("PostDesk2Model", "answered", "J", false)
  | 7 => ("PostDesk2Model", "refused", "J", false)
  | 8 => ("PostDesk2Model", "failed", "J", false)
  | 9 => ("PostDesk2Model", "kindOf", "I", false)
  | 10 => ("PostDesk2Model", "numberOf", "I", false)
  | 11 => ("PostDesk2Model", "callOf", "I", false)
  | _ => ("PostDesk2Model", "log", "J", false)
def tyX1 : Nat → FieldType := fun k => match k with
  | 0 => .array .long
  | 1 => .int
  | 2 => .array .long
  | 3 => .array .int
  | 4 => .array .int
  | 5 => .array .boolean
  | 6 => .long
  | 7 => .long
  | 8 => .long
  | 9 => .int
  | 10 => .int
  | 11 => .int
  | _ => .long
abbrev wsX10 : List Cond := u_ws RX1 TX1 13
theorem nmX1 : ∀ a, a < 13 → ∀ b, b < 13 → a ≠ b → (TX1 a).2.1 ≠ (TX1 b).2.1 := by decide +kernel
theorem tyX1_ok : ∀ k, k < 13 → parseFieldDescriptor (TX1 k).2.2.1 = some (tyX1 k) := by decide +kernel
abbrev cX1_init : ByteArray := prog_3_method_1_code
def yX1_init : MethodName := ⟨RX1, "<init>", "()V"⟩
abbrev cX1_collect : ByteArray := prog_3_method_3_code
def yX1_collect : MethodName := ⟨RX1, "collect", "(J)I"⟩
abbrev cX1_answer : ByteArray := prog_3_method_4_code
def yX1_answer : MethodName := ⟨RX1, "answer", "(IJ)I"⟩
abbrev cX1_fails : ByteArray := prog_3_method_5_code
def yX1_fails : MethodName := ⟨RX1, "fails", "(II)I"⟩
abbrev cX1_make : ByteArray := prog_3_method_6_code
def yX1_make : MethodName := ⟨RX1, "make", "(I)I"⟩
abbrev cX1_isThere : ByteArray := prog_3_method_7_code
def yX1_isThere : MethodName := ⟨RX1, "isThere", "(I)Z"⟩
abbrev cX1_drop : ByteArray := prog_3_method_8_code
def yX1_drop : MethodName := ⟨RX1, "drop", "(I)Z"⟩
abbrev cX1_numbers : ByteArray := prog_3_method_9_code
def yX1_numbers : MethodName := ⟨RX1, "numbers", "(I)I"⟩
abbrev cX1_way : ByteArray := prog_3_method_10_code
def yX1_way : MethodName := ⟨RX1, "way", "(II)I"⟩
abbrev cX1_told : ByteArray := prog_3_method_11_code
def yX1_told : MethodName := ⟨RX1, "told", "(IIJ)J"⟩
abbrev cX1_logBehind : ByteArray := prog_3_method_12_code
def yX1_logBehind : MethodName := ⟨RX1, "logBehind", "(IIIJ)J"⟩
abbrev cX1_call : ByteArray := prog_3_method_13_code
def yX1_call : MethodName := ⟨RX1, "call", "(IIJ)J"⟩
abbrev cX1_again : ByteArray := prog_3_method_14_code
def yX1_again : MethodName := ⟨RX1, "again", "(IIJ)J"⟩
def RL : String := "PostDesk2Law"
abbrev cL_law : ByteArray := code
def yL_law : MethodName := ⟨RL, "law", "([I)Z"⟩
def wsX0_init : List Cond := .code yX0_init cX0_init 1 none :: ([.methodLink RX0 3 objectInit, .instanceMethod objectInit, .code objectInit ⟨#[0xb1]⟩ 1 none, .arrayClass .int, .fieldLink RX0 9 "PostDesk2" "made" "[I", .fieldLink RX0 13 "PostDesk2" "presentOfKind" "[I", .arrayClass .boolean, .fieldLink RX0 16 "PostDesk2" "present" "[Z", .arrayClass .long, .fieldLink RX0 20 "PostDesk2" "values" "[J", .fieldLink RX0 24 "PostDesk2" "failures" "[I", .fieldLink RX0 27 "PostDesk2" "collected" "I", .fieldLink RX0 31 "PostDesk2" "digest" "J", .fieldLink RX0 35 "PostDesk2" "answeredCalls" "J", .fieldLink RX0 38 "PostDesk2" "refusedCalls" "J", .fieldLink RX0 41 "PostDesk2" "failedCalls" "J", .fieldLink RX0 44 "PostDesk2" "latestFailure" "I", .fieldLink RX0 47 "PostDesk2" "latestNumber" "I", .fieldLink RX0 50 "PostDesk2" "latestCall" "I", .constantLong RX0 53 (7), .fieldLink RX0 55 "PostDesk2" "logged" "J"] ++ wsX00)
def wsX0_collect : List Cond := .code yX0_collect cX0_collect 3 (some .int) :: ([.fieldLink RX0 27 "PostDesk2" "collected" "I", .constantLong RX0 58 (31), .fieldLink RX0 31 "PostDesk2" "digest" "J"] ++ wsX00)
def wsX0_isCall : List Cond := .code yX0_isCall cX0_isCall 1 (some .boolean) :: ([])
def wsX0_answer : List Cond := .code yX0_answer cX0_answer 4 (some .int) :: ([.fieldLink RX0 20 "PostDesk2" "values" "[J", .fieldLink RX0 24 "PostDesk2" "failures" "[I", .methodLink RX0 60 yX0_isCall, .static yX0_isCall, .initialized RX0, .code yX0_isCall cX0_isCall 1 (some .boolean)] ++ wsX00)
def wsX0_fails : List Cond := .code yX0_fails cX0_fails 3 (some .int) :: ([.fieldLink RX0 24 "PostDesk2" "failures" "[I", .methodLink RX0 60 yX0_isCall, .static yX0_isCall, .initialized RX0, .code yX0_isCall cX0_isCall 1 (some .boolean)] ++ wsX00)
def wsX0_isKind : List Cond := .code yX0_isKind cX0_isKind 1 (some .boolean) :: ([])
def wsX0_make : List Cond := .code yX0_make cX0_make 2 (some .int) :: ([.fieldLink RX0 9 "PostDesk2" "made" "[I", .fieldLink RX0 13 "PostDesk2" "presentOfKind" "[I", .fieldLink RX0 16 "PostDesk2" "present" "[Z", .methodLink RX0 64 yX0_isKind, .static yX0_isKind, .initialized RX0, .code yX0_isKind cX0_isKind 1 (some .boolean)] ++ wsX00)
def wsX0_placeOf : List Cond := .code yX0_placeOf cX0_placeOf 3 (some .int) :: ([.methodLink RX0 64 yX0_isKind, .static yX0_isKind, .initialized RX0, .code yX0_isKind cX0_isKind 1 (some .boolean)])
def wsX0_isThere : List Cond := .code yX0_isThere cX0_isThere 3 (some .boolean) :: ([.fieldLink RX0 16 "PostDesk2" "present" "[Z", .methodLink RX0 85 yX0_placeOf, .static yX0_placeOf, .initialized RX0, .code yX0_placeOf cX0_placeOf 3 (some .int), .methodLink RX0 64 yX0_isKind, .static yX0_isKind, .code yX0_isKind cX0_isKind 1 (some .boolean)] ++ wsX00)
def wsX0_refusalOf : List Cond := .code yX0_refusalOf cX0_refusalOf 3 (some .long) :: ([.constantLong RX0 71 (-9000000000000000012), .constantLong RX0 92 (-9000000000000000011), .fieldLink RX0 27 "PostDesk2" "collected" "I", .constantLong RX0 94 (-9000000000000000013), .methodLink RX0 60 yX0_isCall, .static yX0_isCall, .initialized RX0, .code yX0_isCall cX0_isCall 1 (some .boolean), .methodLink RX0 89 yX0_isThere, .instanceMethod yX0_isThere, .selects RX0 yX0_isThere yX0_isThere, .code yX0_isThere cX0_isThere 3 (some .boolean), .fieldLink RX0 16 "PostDesk2" "present" "[Z", .methodLink RX0 85 yX0_placeOf, .static yX0_placeOf, .code yX0_placeOf cX0_placeOf 3 (some .int), .methodLink RX0 64 yX0_isKind, .static yX0_isKind, .code yX0_isKind cX0_isKind 1 (some .boolean)] ++ wsX00)
def wsX0_replyTo : List Cond := .code yX0_replyTo cX0_replyTo 6 (some .long) :: ([.fieldLink RX0 24 "PostDesk2" "failures" "[I", .constantLong RX0 96 (-9000000000000000020), .fieldLink RX0 20 "PostDesk2" "values" "[J", .fieldLink RX0 31 "PostDesk2" "digest" "J"] ++ wsX00)
def wsX0_logBehind : List Cond := .code yX0_logBehind cX0_logBehind 9 (some .long) :: ([.constantLong RX0 71 (-9000000000000000012), .fieldLink RX0 55 "PostDesk2" "logged" "J", .constantLong RX0 98 (17), .constantLong RX0 100 (1000003), .constantLong RX0 102 (32), .fieldLink RX0 24 "PostDesk2" "failures" "[I"] ++ wsX00)
def wsX0_settle : List Cond := .code yX0_settle cX0_settle 5 none :: ([.fieldLink RX0 38 "PostDesk2" "refusedCalls" "J", .fieldLink RX0 24 "PostDesk2" "failures" "[I", .fieldLink RX0 41 "PostDesk2" "failedCalls" "J", .fieldLink RX0 44 "PostDesk2" "latestFailure" "I", .fieldLink RX0 47 "PostDesk2" "latestNumber" "I", .fieldLink RX0 50 "PostDesk2" "latestCall" "I", .fieldLink RX0 35 "PostDesk2" "answeredCalls" "J", .fieldLink RX0 27 "PostDesk2" "collected" "I", .fieldLink RX0 31 "PostDesk2" "digest" "J"] ++ wsX00)
def wsX0_call_r1 : List Cond := [Cond.constantLong RX0 71 (-9000000000000000012), Cond.fieldLink RX0 55 "PostDesk2" "logged" "J", Cond.methodLink RX0 67 yX0_refusalOf, Cond.instanceMethod yX0_refusalOf, Cond.selects RX0 yX0_refusalOf yX0_refusalOf, Cond.initialized RX0, Cond.code yX0_refusalOf cX0_refusalOf 3 (some .long), Cond.constantLong RX0 92 (-9000000000000000011), Cond.fieldLink RX0 27 "PostDesk2" "collected" "I", Cond.constantLong RX0 94 (-9000000000000000013), Cond.methodLink RX0 60 yX0_isCall, Cond.static yX0_isCall, Cond.code yX0_isCall cX0_isCall 1 (some .boolean), Cond.methodLink RX0 89 yX0_isThere, Cond.instanceMethod yX0_isThere, Cond.selects RX0 yX0_isThere yX0_isThere, Cond.code yX0_isThere cX0_isThere 3 (some .boolean), Cond.fieldLink RX0 16 "PostDesk2" "present" "[Z", Cond.methodLink RX0 85 yX0_placeOf, Cond.static yX0_placeOf, Cond.code yX0_placeOf cX0_placeOf 3 (some .int), Cond.methodLink RX0 64 yX0_isKind, Cond.static yX0_isKind, Cond.code yX0_isKind cX0_isKind 1 (some .boolean)]
def wsX0_call_r2 : List Cond := [Cond.methodLink RX0 73 yX0_replyTo, Cond.instanceMethod yX0_replyTo, Cond.selects RX0 yX0_replyTo yX0_replyTo, Cond.code yX0_replyTo cX0_replyTo 6 (some .long), Cond.fieldLink RX0 24 "PostDesk2" "failures" "[I", Cond.constantLong RX0 96 (-9000000000000000020), Cond.fieldLink RX0 20 "PostDesk2" "values" "[J", Cond.fieldLink RX0 31 "PostDesk2" "digest" "J", Cond.methodLink RX0 77 yX0_logBehind, Cond.instanceMethod yX0_logBehind, Cond.selects RX0 yX0_logBehind yX0_logBehind, Cond.code yX0_logBehind cX0_logBehind 9 (some .long), Cond.constantLong RX0 98 (17), Cond.constantLong RX0 100 (1000003), Cond.constantLong RX0 102 (32), Cond.methodLink RX0 81 yX0_settle, Cond.instanceMethod yX0_settle, Cond.selects RX0 yX0_settle yX0_settle, Cond.code yX0_settle cX0_settle 5 none, Cond.fieldLink RX0 38 "PostDesk2" "refusedCalls" "J", Cond.fieldLink RX0 41 "PostDesk2" "failedCalls" "J", Cond.fieldLink RX0 44 "PostDesk2" "latestFailure" "I", Cond.fieldLink RX0 47 "PostDesk2" "latestNumber" "I", Cond.fieldLink RX0 50 "PostDesk2" "latestCall" "I"]
def wsX0_call_r3 : List Cond := [Cond.fieldLink RX0 35 "PostDesk2" "answeredCalls" "J"]
def wsX0_call : List Cond := .code yX0_call cX0_call 9 (some .long) :: ((wsX0_call_r1 ++ (wsX0_call_r2 ++ wsX0_call_r3)) ++ wsX00)
def wsX0_told : List Cond := .code yX0_told cX0_told 2 (some .long) :: ([.fieldLink RX0 35 "PostDesk2" "answeredCalls" "J", .fieldLink RX0 38 "PostDesk2" "refusedCalls" "J", .fieldLink RX0 41 "PostDesk2" "failedCalls" "J", .fieldLink RX0 44 "PostDesk2" "latestFailure" "I", .fieldLink RX0 47 "PostDesk2" "latestNumber" "I", .fieldLink RX0 50 "PostDesk2" "latestCall" "I", .fieldLink RX0 27 "PostDesk2" "collected" "I", .fieldLink RX0 55 "PostDesk2" "logged" "J"] ++ wsX00)
def wsX0_drop : List Cond := .code yX0_drop cX0_drop 3 (some .boolean) :: ([.fieldLink RX0 16 "PostDesk2" "present" "[Z", .fieldLink RX0 13 "PostDesk2" "presentOfKind" "[I", .methodLink RX0 85 yX0_placeOf, .static yX0_placeOf, .initialized RX0, .code yX0_placeOf cX0_placeOf 3 (some .int), .methodLink RX0 64 yX0_isKind, .static yX0_isKind, .code yX0_isKind cX0_isKind 1 (some .boolean)] ++ wsX00)
def wsX0_numbers : List Cond := .code yX0_numbers cX0_numbers 2 (some .int) :: ([.fieldLink RX0 13 "PostDesk2" "presentOfKind" "[I", .methodLink RX0 64 yX0_isKind, .static yX0_isKind, .initialized RX0, .code yX0_isKind cX0_isKind 1 (some .boolean)] ++ wsX00)
def wsX0_again_r1 : List Cond := [Cond.methodLink RX0 67 yX0_refusalOf, Cond.instanceMethod yX0_refusalOf, Cond.selects RX0 yX0_refusalOf yX0_refusalOf, Cond.initialized RX0, Cond.code yX0_refusalOf cX0_refusalOf 3 (some .long), Cond.constantLong RX0 71 (-9000000000000000012), Cond.constantLong RX0 92 (-9000000000000000011), Cond.fieldLink RX0 27 "PostDesk2" "collected" "I", Cond.constantLong RX0 94 (-9000000000000000013), Cond.methodLink RX0 60 yX0_isCall, Cond.static yX0_isCall, Cond.code yX0_isCall cX0_isCall 1 (some .boolean), Cond.methodLink RX0 89 yX0_isThere, Cond.instanceMethod yX0_isThere, Cond.selects RX0 yX0_isThere yX0_isThere, Cond.code yX0_isThere cX0_isThere 3 (some .boolean), Cond.fieldLink RX0 16 "PostDesk2" "present" "[Z", Cond.methodLink RX0 85 yX0_placeOf, Cond.static yX0_placeOf, Cond.code yX0_placeOf cX0_placeOf 3 (some .int), Cond.methodLink RX0 64 yX0_isKind, Cond.static yX0_isKind, Cond.code yX0_isKind cX0_isKind 1 (some .boolean), Cond.methodLink RX0 73 yX0_replyTo]
def wsX0_again_r2 : List Cond := [Cond.instanceMethod yX0_replyTo, Cond.selects RX0 yX0_replyTo yX0_replyTo, Cond.code yX0_replyTo cX0_replyTo 6 (some .long), Cond.fieldLink RX0 24 "PostDesk2" "failures" "[I", Cond.constantLong RX0 96 (-9000000000000000020), Cond.fieldLink RX0 20 "PostDesk2" "values" "[J", Cond.fieldLink RX0 31 "PostDesk2" "digest" "J"]
def wsX0_again : List Cond := .code yX0_again cX0_again 5 (some .long) :: ((wsX0_again_r1 ++ wsX0_again_r2) ++ wsX00)
def wsX0_log_r1 : List Cond := [Cond.methodLink RX0 67 yX0_refusalOf, Cond.instanceMethod yX0_refusalOf, Cond.selects RX0 yX0_refusalOf yX0_refusalOf, Cond.initialized RX0, Cond.code yX0_refusalOf cX0_refusalOf 3 (some .long), Cond.constantLong RX0 71 (-9000000000000000012), Cond.constantLong RX0 92 (-9000000000000000011), Cond.fieldLink RX0 27 "PostDesk2" "collected" "I", Cond.constantLong RX0 94 (-9000000000000000013), Cond.methodLink RX0 60 yX0_isCall, Cond.static yX0_isCall, Cond.code yX0_isCall cX0_isCall 1 (some .boolean), Cond.methodLink RX0 89 yX0_isThere, Cond.instanceMethod yX0_isThere, Cond.selects RX0 yX0_isThere yX0_isThere, Cond.code yX0_isThere cX0_isThere 3 (some .boolean), Cond.fieldLink RX0 16 "PostDesk2" "present" "[Z", Cond.methodLink RX0 85 yX0_placeOf, Cond.static yX0_placeOf, Cond.code yX0_placeOf cX0_placeOf 3 (some .int), Cond.methodLink RX0 64 yX0_isKind, Cond.static yX0_isKind, Cond.code yX0_isKind cX0_isKind 1 (some .boolean), Cond.methodLink RX0 73 yX0_replyTo]
def wsX0_log_r2 : List Cond := [Cond.instanceMethod yX0_replyTo, Cond.selects RX0 yX0_replyTo yX0_replyTo, Cond.code yX0_replyTo cX0_replyTo 6 (some .long), Cond.fieldLink RX0 24 "PostDesk2" "failures" "[I", Cond.constantLong RX0 96 (-9000000000000000020), Cond.fieldLink RX0 20 "PostDesk2" "values" "[J", Cond.fieldLink RX0 31 "PostDesk2" "digest" "J", Cond.methodLink RX0 77 yX0_logBehind, Cond.instanceMethod yX0_logBehind, Cond.selects RX0 yX0_logBehind yX0_logBehind, Cond.code yX0_logBehind cX0_logBehind 9 (some .long), Cond.fieldLink RX0 55 "PostDesk2" "logged" "J", Cond.constantLong RX0 98 (17), Cond.constantLong RX0 100 (1000003), Cond.constantLong RX0 102 (32)]
def wsX0_log : List Cond := .code yX0_log cX0_log 7 (some .long) :: ((wsX0_log_r1 ++ wsX0_log_r2) ++ wsX00)
def wsX1_init : List Cond := .code yX1_init cX1_init 1 none :: ([.methodLink RX1 1 objectInit, .instanceMethod objectInit, .code objectInit ⟨#[0xb1]⟩ 1 none, .arrayClass .long, .fieldLink RX1 7 "PostDesk2Model" "collected" "[J", .fieldLink RX1 13 "PostDesk2Model" "value" "[J", .arrayClass .int, .fieldLink RX1 16 "PostDesk2Model" "failure" "[I", .fieldLink RX1 20 "PostDesk2Model" "made" "[I", .arrayClass .boolean, .fieldLink RX1 23 "PostDesk2Model" "there" "[Z", .constantLong RX1 27 (7), .fieldLink RX1 29 "PostDesk2Model" "log" "J"] ++ wsX10)
def wsX1_collect : List Cond := .code yX1_collect cX1_collect 3 (some .int) :: ([.fieldLink RX1 33 "PostDesk2Model" "many" "I", .fieldLink RX1 7 "PostDesk2Model" "collected" "[J"] ++ wsX10)
def wsX1_answer : List Cond := .code yX1_answer cX1_answer 4 (some .int) :: ([.fieldLink RX1 13 "PostDesk2Model" "value" "[J", .fieldLink RX1 16 "PostDesk2Model" "failure" "[I"] ++ wsX10)
def wsX1_fails : List Cond := .code yX1_fails cX1_fails 3 (some .int) :: ([.fieldLink RX1 16 "PostDesk2Model" "failure" "[I"] ++ wsX10)
def wsX1_make : List Cond := .code yX1_make cX1_make 2 (some .int) :: ([.fieldLink RX1 20 "PostDesk2Model" "made" "[I", .fieldLink RX1 23 "PostDesk2Model" "there" "[Z"] ++ wsX10)
def wsX1_isThere : List Cond := .code yX1_isThere cX1_isThere 2 (some .boolean) :: ([.fieldLink RX1 23 "PostDesk2Model" "there" "[Z"] ++ wsX10)
def wsX1_drop : List Cond := .code yX1_drop cX1_drop 3 (some .boolean) :: ([.fieldLink RX1 23 "PostDesk2Model" "there" "[Z", .methodLink RX1 37 yX1_isThere, .instanceMethod yX1_isThere, .selects RX1 yX1_isThere yX1_isThere, .initialized RX1, .code yX1_isThere cX1_isThere 2 (some .boolean)] ++ wsX10)
def wsX1_numbers : List Cond := .code yX1_numbers cX1_numbers 4 (some .int) :: ([.fieldLink RX1 23 "PostDesk2Model" "there" "[Z"] ++ wsX10)
def wsX1_way : List Cond := .code yX1_way cX1_way 3 (some .int) :: ([.fieldLink RX1 33 "PostDesk2Model" "many" "I", .fieldLink RX1 16 "PostDesk2Model" "failure" "[I", .methodLink RX1 37 yX1_isThere, .instanceMethod yX1_isThere, .selects RX1 yX1_isThere yX1_isThere, .initialized RX1, .code yX1_isThere cX1_isThere 2 (some .boolean), .fieldLink RX1 23 "PostDesk2Model" "there" "[Z"] ++ wsX10)
def wsX1_told : List Cond := .code yX1_told cX1_told 8 (some .long) :: ([.constantLong RX1 41 (-9000000000000000012), .constantLong RX1 43 (-9000000000000000011), .constantLong RX1 45 (-9000000000000000013), .constantLong RX1 47 (-9000000000000000020), .fieldLink RX1 33 "PostDesk2Model" "many" "I", .constantLong RX1 49 (31), .fieldLink RX1 7 "PostDesk2Model" "collected" "[J", .fieldLink RX1 13 "PostDesk2Model" "value" "[J"] ++ wsX10)
def wsX1_logBehind : List Cond := .code yX1_logBehind cX1_logBehind 8 (some .long) :: ([.fieldLink RX1 29 "PostDesk2Model" "log" "J", .constantLong RX1 51 (1000003), .constantLong RX1 53 (32), .constantLong RX1 55 (17), .fieldLink RX1 16 "PostDesk2Model" "failure" "[I"] ++ wsX10)
def wsX1_call_r1 : List Cond := [Cond.fieldLink RX1 29 "PostDesk2Model" "log" "J", Cond.fieldLink RX1 69 "PostDesk2Model" "answered" "J", Cond.fieldLink RX1 33 "PostDesk2Model" "many" "I", Cond.fieldLink RX1 72 "PostDesk2Model" "failed" "J", Cond.fieldLink RX1 16 "PostDesk2Model" "failure" "[I", Cond.fieldLink RX1 75 "PostDesk2Model" "kindOf" "I", Cond.fieldLink RX1 78 "PostDesk2Model" "numberOf" "I", Cond.fieldLink RX1 81 "PostDesk2Model" "callOf" "I", Cond.fieldLink RX1 84 "PostDesk2Model" "refused" "J", Cond.methodLink RX1 57 yX1_way, Cond.instanceMethod yX1_way, Cond.selects RX1 yX1_way yX1_way, Cond.initialized RX1, Cond.code yX1_way cX1_way 3 (some .int), Cond.methodLink RX1 37 yX1_isThere, Cond.instanceMethod yX1_isThere, Cond.selects RX1 yX1_isThere yX1_isThere, Cond.code yX1_isThere cX1_isThere 2 (some .boolean), Cond.fieldLink RX1 23 "PostDesk2Model" "there" "[Z", Cond.methodLink RX1 61 yX1_told, Cond.instanceMethod yX1_told, Cond.selects RX1 yX1_told yX1_told, Cond.code yX1_told cX1_told 8 (some .long), Cond.constantLong RX1 41 (-9000000000000000012)]
def wsX1_call_r2 : List Cond := [Cond.constantLong RX1 43 (-9000000000000000011), Cond.constantLong RX1 45 (-9000000000000000013), Cond.constantLong RX1 47 (-9000000000000000020), Cond.constantLong RX1 49 (31), Cond.fieldLink RX1 7 "PostDesk2Model" "collected" "[J", Cond.fieldLink RX1 13 "PostDesk2Model" "value" "[J", Cond.methodLink RX1 65 yX1_logBehind, Cond.instanceMethod yX1_logBehind, Cond.selects RX1 yX1_logBehind yX1_logBehind, Cond.code yX1_logBehind cX1_logBehind 8 (some .long), Cond.constantLong RX1 51 (1000003), Cond.constantLong RX1 53 (32), Cond.constantLong RX1 55 (17)]
def wsX1_call : List Cond := .code yX1_call cX1_call 8 (some .long) :: ((wsX1_call_r1 ++ wsX1_call_r2) ++ wsX10)
def wsX1_again : List Cond := .code yX1_again cX1_again 5 (some .long) :: ([.methodLink RX1 57 yX1_way, .instanceMethod yX1_way, .selects RX1 yX1_way yX1_way, .initialized RX1, .code yX1_way cX1_way 3 (some .int), .fieldLink RX1 33 "PostDesk2Model" "many" "I", .fieldLink RX1 16 "PostDesk2Model" "failure" "[I", .methodLink RX1 37 yX1_isThere, .instanceMethod yX1_isThere, .selects RX1 yX1_isThere yX1_isThere, .code yX1_isThere cX1_isThere 2 (some .boolean), .fieldLink RX1 23 "PostDesk2Model" "there" "[Z", .methodLink RX1 61 yX1_told, .instanceMethod yX1_told, .selects RX1 yX1_told yX1_told, .code yX1_told cX1_told 8 (some .long), .constantLong RX1 41 (-9000000000000000012), .constantLong RX1 43 (-9000000000000000011), .constantLong RX1 45 (-9000000000000000013), .constantLong RX1 47 (-9000000000000000020), .constantLong RX1 49 (31), .fieldLink RX1 7 "PostDesk2Model" "collected" "[J", .fieldLink RX1 13 "PostDesk2Model" "value" "[J"] ++ wsX10)
def wsL_law_r1 : List Cond := [Cond.classLink RL 7 RX0, Cond.instantiable RX0 14, Cond.initialized RX0, Cond.classLink RL 10 RX1, Cond.instantiable RX1 13, Cond.initialized RX1, Cond.methodLink RL 9 yX0_init, Cond.instanceMethod yX0_init, Cond.code yX0_init cX0_init 1 none, Cond.methodLink RX0 3 objectInit, Cond.instanceMethod objectInit, Cond.code objectInit ⟨#[0xb1]⟩ 1 none, Cond.arrayClass .int, Cond.fieldLink RX0 9 "PostDesk2" "made" "[I", Cond.fieldLink RX0 13 "PostDesk2" "presentOfKind" "[I", Cond.arrayClass .boolean, Cond.fieldLink RX0 16 "PostDesk2" "present" "[Z", Cond.arrayClass .long, Cond.fieldLink RX0 20 "PostDesk2" "values" "[J", Cond.fieldLink RX0 24 "PostDesk2" "failures" "[I", Cond.fieldLink RX0 27 "PostDesk2" "collected" "I", Cond.fieldLink RX0 31 "PostDesk2" "digest" "J", Cond.fieldLink RX0 35 "PostDesk2" "answeredCalls" "J", Cond.fieldLink RX0 38 "PostDesk2" "refusedCalls" "J"]
def wsL_law_r2 : List Cond := [Cond.fieldLink RX0 41 "PostDesk2" "failedCalls" "J", Cond.fieldLink RX0 44 "PostDesk2" "latestFailure" "I", Cond.fieldLink RX0 47 "PostDesk2" "latestNumber" "I", Cond.fieldLink RX0 50 "PostDesk2" "latestCall" "I", Cond.constantLong RX0 53 (7), Cond.fieldLink RX0 55 "PostDesk2" "logged" "J", Cond.methodLink RL 12 yX1_init, Cond.instanceMethod yX1_init, Cond.code yX1_init cX1_init 1 none, Cond.methodLink RX1 1 objectInit, Cond.fieldLink RX1 7 "PostDesk2Model" "collected" "[J", Cond.fieldLink RX1 13 "PostDesk2Model" "value" "[J", Cond.fieldLink RX1 16 "PostDesk2Model" "failure" "[I", Cond.fieldLink RX1 20 "PostDesk2Model" "made" "[I", Cond.fieldLink RX1 23 "PostDesk2Model" "there" "[Z", Cond.constantLong RX1 27 (7), Cond.fieldLink RX1 29 "PostDesk2Model" "log" "J", Cond.methodLink RL 15 yX0_collect, Cond.instanceMethod yX0_collect, Cond.selects RX0 yX0_collect yX0_collect, Cond.code yX0_collect cX0_collect 3 (some .int), Cond.constantLong RX0 58 (31), Cond.methodLink RL 19 yX1_collect, Cond.instanceMethod yX1_collect]
def wsL_law_r3 : List Cond := [Cond.selects RX1 yX1_collect yX1_collect, Cond.code yX1_collect cX1_collect 3 (some .int), Cond.fieldLink RX1 33 "PostDesk2Model" "many" "I", Cond.methodLink RL 20 yX0_answer, Cond.instanceMethod yX0_answer, Cond.selects RX0 yX0_answer yX0_answer, Cond.code yX0_answer cX0_answer 4 (some .int), Cond.methodLink RX0 60 yX0_isCall, Cond.static yX0_isCall, Cond.code yX0_isCall cX0_isCall 1 (some .boolean), Cond.methodLink RL 24 yX1_answer, Cond.instanceMethod yX1_answer, Cond.selects RX1 yX1_answer yX1_answer, Cond.code yX1_answer cX1_answer 4 (some .int), Cond.methodLink RL 25 yX0_fails, Cond.instanceMethod yX0_fails, Cond.selects RX0 yX0_fails yX0_fails, Cond.code yX0_fails cX0_fails 3 (some .int), Cond.methodLink RL 29 yX1_fails, Cond.instanceMethod yX1_fails, Cond.selects RX1 yX1_fails yX1_fails, Cond.code yX1_fails cX1_fails 3 (some .int), Cond.methodLink RL 30 yX0_make, Cond.instanceMethod yX0_make]
def wsL_law_r4 : List Cond := [Cond.selects RX0 yX0_make yX0_make, Cond.code yX0_make cX0_make 2 (some .int), Cond.methodLink RX0 64 yX0_isKind, Cond.static yX0_isKind, Cond.code yX0_isKind cX0_isKind 1 (some .boolean), Cond.methodLink RL 34 yX1_make, Cond.instanceMethod yX1_make, Cond.selects RX1 yX1_make yX1_make, Cond.code yX1_make cX1_make 2 (some .int), Cond.methodLink RL 35 yX0_call, Cond.instanceMethod yX0_call, Cond.selects RX0 yX0_call yX0_call, Cond.code yX0_call cX0_call 9 (some .long), Cond.constantLong RX0 71 (-9000000000000000012), Cond.methodLink RX0 67 yX0_refusalOf, Cond.instanceMethod yX0_refusalOf, Cond.selects RX0 yX0_refusalOf yX0_refusalOf, Cond.code yX0_refusalOf cX0_refusalOf 3 (some .long), Cond.constantLong RX0 92 (-9000000000000000011), Cond.constantLong RX0 94 (-9000000000000000013), Cond.methodLink RX0 89 yX0_isThere, Cond.instanceMethod yX0_isThere, Cond.selects RX0 yX0_isThere yX0_isThere, Cond.code yX0_isThere cX0_isThere 3 (some .boolean)]
def wsL_law_r5 : List Cond := [Cond.methodLink RX0 85 yX0_placeOf, Cond.static yX0_placeOf, Cond.code yX0_placeOf cX0_placeOf 3 (some .int), Cond.methodLink RX0 73 yX0_replyTo, Cond.instanceMethod yX0_replyTo, Cond.selects RX0 yX0_replyTo yX0_replyTo, Cond.code yX0_replyTo cX0_replyTo 6 (some .long), Cond.constantLong RX0 96 (-9000000000000000020), Cond.methodLink RX0 77 yX0_logBehind, Cond.instanceMethod yX0_logBehind, Cond.selects RX0 yX0_logBehind yX0_logBehind, Cond.code yX0_logBehind cX0_logBehind 9 (some .long), Cond.constantLong RX0 98 (17), Cond.constantLong RX0 100 (1000003), Cond.constantLong RX0 102 (32), Cond.methodLink RX0 81 yX0_settle, Cond.instanceMethod yX0_settle, Cond.selects RX0 yX0_settle yX0_settle, Cond.code yX0_settle cX0_settle 5 none, Cond.methodLink RL 39 yX1_call, Cond.instanceMethod yX1_call, Cond.selects RX1 yX1_call yX1_call, Cond.code yX1_call cX1_call 8 (some .long), Cond.fieldLink RX1 69 "PostDesk2Model" "answered" "J"]
def wsL_law_r6 : List Cond := [Cond.fieldLink RX1 72 "PostDesk2Model" "failed" "J", Cond.fieldLink RX1 75 "PostDesk2Model" "kindOf" "I", Cond.fieldLink RX1 78 "PostDesk2Model" "numberOf" "I", Cond.fieldLink RX1 81 "PostDesk2Model" "callOf" "I", Cond.fieldLink RX1 84 "PostDesk2Model" "refused" "J", Cond.methodLink RX1 57 yX1_way, Cond.instanceMethod yX1_way, Cond.selects RX1 yX1_way yX1_way, Cond.code yX1_way cX1_way 3 (some .int), Cond.methodLink RX1 37 yX1_isThere, Cond.instanceMethod yX1_isThere, Cond.selects RX1 yX1_isThere yX1_isThere, Cond.code yX1_isThere cX1_isThere 2 (some .boolean), Cond.methodLink RX1 61 yX1_told, Cond.instanceMethod yX1_told, Cond.selects RX1 yX1_told yX1_told, Cond.code yX1_told cX1_told 8 (some .long), Cond.constantLong RX1 41 (-9000000000000000012), Cond.constantLong RX1 43 (-9000000000000000011), Cond.constantLong RX1 45 (-9000000000000000013), Cond.constantLong RX1 47 (-9000000000000000020), Cond.constantLong RX1 49 (31), Cond.methodLink RX1 65 yX1_logBehind, Cond.instanceMethod yX1_logBehind]
def wsL_law_r7 : List Cond := [Cond.selects RX1 yX1_logBehind yX1_logBehind, Cond.code yX1_logBehind cX1_logBehind 8 (some .long), Cond.constantLong RX1 51 (1000003), Cond.constantLong RX1 53 (32), Cond.constantLong RX1 55 (17), Cond.methodLink RL 40 yX0_told, Cond.instanceMethod yX0_told, Cond.selects RX0 yX0_told yX0_told, Cond.code yX0_told cX0_told 2 (some .long), Cond.methodLink RL 45 yX0_drop, Cond.instanceMethod yX0_drop, Cond.selects RX0 yX0_drop yX0_drop, Cond.code yX0_drop cX0_drop 3 (some .boolean), Cond.methodLink RL 49 yX1_drop, Cond.instanceMethod yX1_drop, Cond.selects RX1 yX1_drop yX1_drop, Cond.code yX1_drop cX1_drop 3 (some .boolean), Cond.methodLink RL 50 yX0_numbers, Cond.instanceMethod yX0_numbers, Cond.selects RX0 yX0_numbers yX0_numbers, Cond.code yX0_numbers cX0_numbers 2 (some .int), Cond.methodLink RL 53 yX1_numbers, Cond.instanceMethod yX1_numbers, Cond.selects RX1 yX1_numbers yX1_numbers]
def wsL_law_r8 : List Cond := [Cond.code yX1_numbers cX1_numbers 4 (some .int), Cond.methodLink RL 54 yX0_isThere, Cond.methodLink RL 57 yX1_isThere, Cond.methodLink RL 58 yX0_again, Cond.instanceMethod yX0_again, Cond.selects RX0 yX0_again yX0_again, Cond.code yX0_again cX0_again 5 (some .long), Cond.methodLink RL 61 yX1_again, Cond.instanceMethod yX1_again, Cond.selects RX1 yX1_again yX1_again, Cond.code yX1_again cX1_again 5 (some .long), Cond.methodLink RL 62 yX0_log, Cond.instanceMethod yX0_log, Cond.selects RX0 yX0_log yX0_log, Cond.code yX0_log cX0_log 7 (some .long)]
def wsL_law : List Cond := (wsL_law_r1 ++ (wsL_law_r2 ++ (wsL_law_r3 ++ (wsL_law_r4 ++ (wsL_law_r5 ++ (wsL_law_r6 ++ (wsL_law_r7 ++ wsL_law_r8))))))) ++ wsX00 ++ wsX10 ++ ([] : List Cond)
set_option maxRecDepth 20000 in
theorem wsL_law_in : ∀ w ∈ wsL_law, w ∈ lw_tbl := fun w h => (goodIn_p wsL_law [14, 17, 147, 68, 193, 73, 76, 197, 80, 201, 84, 87, 205, 91, 95, 100, 103, 109, 114, 121, 222, 226, 209, 230, 239, 125, 129, 213, 133, 218, 138, 246, 142] (by decide +kernel) (by decide +kernel) w h).1
theorem inlX0 : ∀ w ∈ wsX00, w ∈ wsL_law := fun _ h => List.mem_append_left _ (List.mem_append_left _ (List.mem_append_right _ h))
theorem inX0 : ∀ w ∈ wsX00, w ∈ lw_tbl := fun w h => wsL_law_in w (inlX0 w h)
theorem inlX1 : ∀ w ∈ wsX10, w ∈ wsL_law := fun _ h => List.mem_append_left _ (List.mem_append_right _ h)
theorem inX1 : ∀ w ∈ wsX10, w ∈ lw_tbl := fun w h => wsL_law_in w (inlX1 w h)
set_option maxRecDepth 20000 in
theorem ggX0_answer_X0_isCall : GoodIn wsX0_answer wsX0_isCall := goodIn_r _ [6] (by decide +kernel) (by decide +kernel)
set_option maxRecDepth 20000 in
theorem gX0_answer_X0_isCall : GoodIn wsX0_answer (va_wsS RX0 60 yX0_isCall wsX0_isCall) := goodIn_app (goodIn_of _ (by decide +kernel)) ggX0_answer_X0_isCall
set_option maxRecDepth 20000 in
theorem ggX0_fails_X0_isCall : GoodIn wsX0_fails wsX0_isCall := goodIn_r _ [5] (by decide +kernel) (by decide +kernel)
set_option maxRecDepth 20000 in
theorem gX0_fails_X0_isCall : GoodIn wsX0_fails (va_wsS RX0 60 yX0_isCall wsX0_isCall) := goodIn_app (goodIn_of _ (by decide +kernel)) ggX0_fails_X0_isCall
set_option maxRecDepth 20000 in
theorem ggX0_make_X0_isKind : GoodIn wsX0_make wsX0_isKind := goodIn_r _ [7] (by decide +kernel) (by decide +kernel)
set_option maxRecDepth 20000 in
theorem gX0_make_X0_isKind : GoodIn wsX0_make (va_wsS RX0 64 yX0_isKind wsX0_isKind) := goodIn_app (goodIn_of _ (by decide +kernel)) ggX0_make_X0_isKind
set_option maxRecDepth 20000 in
theorem ggX0_call_X0_refusalOf : GoodIn wsX0_call wsX0_refusalOf := goodIn_r _ [7, 1, 8, 9, 10, 11, 12, 6, 13, 14, 15, 16, 17, 18, 19, 20, 21, 22, 23, 24, 50, 51, 52, 53, 54, 55, 56, 57, 58, 59, 60, 61, 62, 63] (by decide +kernel) (by decide +kernel)
set_option maxRecDepth 20000 in
theorem gX0_call_X0_refusalOf : GoodIn wsX0_call (wsV RX0 67 RX0 yX0_refusalOf wsX0_refusalOf) := goodIn_app (goodIn_of _ (by decide +kernel)) ggX0_call_X0_refusalOf
set_option maxRecDepth 20000 in
theorem ggX0_call_X0_replyTo : GoodIn wsX0_call wsX0_replyTo := goodIn_r _ [28, 29, 30, 31, 32, 50, 51, 52, 53, 54, 55, 56, 57, 58, 59, 60, 61, 62, 63] (by decide +kernel) (by decide +kernel)
set_option maxRecDepth 20000 in
theorem gX0_call_X0_replyTo : GoodIn wsX0_call (wsV RX0 73 RX0 yX0_replyTo wsX0_replyTo) := goodIn_app (goodIn_of _ (by decide +kernel)) ggX0_call_X0_replyTo
set_option maxRecDepth 20000 in
theorem ggX0_call_X0_logBehind : GoodIn wsX0_call wsX0_logBehind := goodIn_r _ [36, 1, 2, 37, 38, 39, 29, 50, 51, 52, 53, 54, 55, 56, 57, 58, 59, 60, 61, 62, 63] (by decide +kernel) (by decide +kernel)
set_option maxRecDepth 20000 in
theorem gX0_call_X0_logBehind : GoodIn wsX0_call (wsV RX0 77 RX0 yX0_logBehind wsX0_logBehind) := goodIn_app (goodIn_of _ (by decide +kernel)) ggX0_call_X0_logBehind
set_option maxRecDepth 20000 in
theorem ggX0_call_X0_settle : GoodIn wsX0_call wsX0_settle := goodIn_r _ [43, 44, 29, 45, 46, 47, 48, 49, 9, 32, 50, 51, 52, 53, 54, 55, 56, 57, 58, 59, 60, 61, 62, 63] (by decide +kernel) (by decide +kernel)
set_option maxRecDepth 20000 in
theorem gX0_call_X0_settle : GoodIn wsX0_call (wsV RX0 81 RX0 yX0_settle wsX0_settle) := goodIn_app (goodIn_of _ (by decide +kernel)) ggX0_call_X0_settle
set_option maxRecDepth 20000 in
theorem ggX0_drop_X0_placeOf : GoodIn wsX0_drop wsX0_placeOf := goodIn_r _ [6, 7, 8, 5, 9] (by decide +kernel) (by decide +kernel)
set_option maxRecDepth 20000 in
theorem gX0_drop_X0_placeOf : GoodIn wsX0_drop (va_wsS RX0 85 yX0_placeOf wsX0_placeOf) := goodIn_app (goodIn_of _ (by decide +kernel)) ggX0_drop_X0_placeOf
set_option maxRecDepth 20000 in
theorem ggX0_numbers_X0_isKind : GoodIn wsX0_numbers wsX0_isKind := goodIn_r _ [5] (by decide +kernel) (by decide +kernel)
set_option maxRecDepth 20000 in
theorem gX0_numbers_X0_isKind : GoodIn wsX0_numbers (va_wsS RX0 64 yX0_isKind wsX0_isKind) := goodIn_app (goodIn_of _ (by decide +kernel)) ggX0_numbers_X0_isKind
set_option maxRecDepth 20000 in
theorem ggX0_isThere_X0_placeOf : GoodIn wsX0_isThere wsX0_placeOf := goodIn_r _ [5, 6, 7, 4, 8] (by decide +kernel) (by decide +kernel)
set_option maxRecDepth 20000 in
theorem gX0_isThere_X0_placeOf : GoodIn wsX0_isThere (va_wsS RX0 85 yX0_placeOf wsX0_placeOf) := goodIn_app (goodIn_of _ (by decide +kernel)) ggX0_isThere_X0_placeOf
set_option maxRecDepth 20000 in
theorem ggX0_again_X0_refusalOf : GoodIn wsX0_again wsX0_refusalOf := goodIn_r _ [5, 6, 7, 8, 9, 10, 11, 4, 12, 13, 14, 15, 16, 17, 18, 19, 20, 21, 22, 23, 32, 33, 34, 35, 36, 37, 38, 39, 40, 41, 42, 43, 44, 45] (by decide +kernel) (by decide +kernel)
set_option maxRecDepth 20000 in
theorem gX0_again_X0_refusalOf : GoodIn wsX0_again (wsV RX0 67 RX0 yX0_refusalOf wsX0_refusalOf) := goodIn_app (goodIn_of _ (by decide +kernel)) ggX0_again_X0_refusalOf
set_option maxRecDepth 20000 in
theorem ggX0_again_X0_replyTo : GoodIn wsX0_again wsX0_replyTo := goodIn_r _ [27, 28, 29, 30, 31, 32, 33, 34, 35, 36, 37, 38, 39, 40, 41, 42, 43, 44, 45] (by decide +kernel) (by decide +kernel)
set_option maxRecDepth 20000 in
theorem gX0_again_X0_replyTo : GoodIn wsX0_again (wsV RX0 73 RX0 yX0_replyTo wsX0_replyTo) := goodIn_app (goodIn_of _ (by decide +kernel)) ggX0_again_X0_replyTo
set_option maxRecDepth 20000 in
theorem ggX0_log_X0_refusalOf : GoodIn wsX0_log wsX0_refusalOf := goodIn_r _ [5, 6, 7, 8, 9, 10, 11, 4, 12, 13, 14, 15, 16, 17, 18, 19, 20, 21, 22, 23, 40, 41, 42, 43, 44, 45, 46, 47, 48, 49, 50, 51, 52, 53] (by decide +kernel) (by decide +kernel)
set_option maxRecDepth 20000 in
theorem gX0_log_X0_refusalOf : GoodIn wsX0_log (wsV RX0 67 RX0 yX0_refusalOf wsX0_refusalOf) := goodIn_app (goodIn_of _ (by decide +kernel)) ggX0_log_X0_refusalOf
set_option maxRecDepth 20000 in
theorem ggX0_log_X0_replyTo : GoodIn wsX0_log wsX0_replyTo := goodIn_r _ [27, 28, 29, 30, 31, 40, 41, 42, 43, 44, 45, 46, 47, 48, 49, 50, 51, 52, 53] (by decide +kernel) (by decide +kernel)
set_option maxRecDepth 20000 in
theorem gX0_log_X0_replyTo : GoodIn wsX0_log (wsV RX0 73 RX0 yX0_replyTo wsX0_replyTo) := goodIn_app (goodIn_of _ (by decide +kernel)) ggX0_log_X0_replyTo
set_option maxRecDepth 20000 in
theorem ggX0_log_X0_logBehind : GoodIn wsX0_log wsX0_logBehind := goodIn_r _ [35, 6, 36, 37, 38, 39, 28, 40, 41, 42, 43, 44, 45, 46, 47, 48, 49, 50, 51, 52, 53] (by decide +kernel) (by decide +kernel)
set_option maxRecDepth 20000 in
theorem gX0_log_X0_logBehind : GoodIn wsX0_log (wsV RX0 77 RX0 yX0_logBehind wsX0_logBehind) := goodIn_app (goodIn_of _ (by decide +kernel)) ggX0_log_X0_logBehind
set_option maxRecDepth 20000 in
theorem ggX0_placeOf_X0_isKind : GoodIn wsX0_placeOf wsX0_isKind := goodIn_r _ [4] (by decide +kernel) (by decide +kernel)
set_option maxRecDepth 20000 in
theorem gX0_placeOf_X0_isKind : GoodIn wsX0_placeOf (va_wsS RX0 64 yX0_isKind wsX0_isKind) := goodIn_app (goodIn_of _ (by decide +kernel)) ggX0_placeOf_X0_isKind
set_option maxRecDepth 20000 in
theorem ggX0_refusalOf_X0_isCall : GoodIn wsX0_refusalOf wsX0_isCall := goodIn_r _ [8] (by decide +kernel) (by decide +kernel)
set_option maxRecDepth 20000 in
theorem gX0_refusalOf_X0_isCall : GoodIn wsX0_refusalOf (va_wsS RX0 60 yX0_isCall wsX0_isCall) := goodIn_app (goodIn_of _ (by decide +kernel)) ggX0_refusalOf_X0_isCall
set_option maxRecDepth 20000 in
theorem ggX0_refusalOf_X0_isThere : GoodIn wsX0_refusalOf wsX0_isThere := goodIn_r _ [12, 13, 14, 15, 7, 16, 17, 18, 19, 20, 21, 22, 23, 24, 25, 26, 27, 28, 29, 30, 31, 32, 33] (by decide +kernel) (by decide +kernel)
set_option maxRecDepth 20000 in
theorem gX0_refusalOf_X0_isThere : GoodIn wsX0_refusalOf (wsV RX0 89 RX0 yX0_isThere wsX0_isThere) := goodIn_app (goodIn_of _ (by decide +kernel)) ggX0_refusalOf_X0_isThere
set_option maxRecDepth 20000 in
theorem ggX1_drop_X1_isThere : GoodIn wsX1_drop wsX1_isThere := goodIn_r _ [6, 1, 7, 8, 9, 10, 11, 12, 13, 14, 15, 16, 17, 18, 19] (by decide +kernel) (by decide +kernel)
set_option maxRecDepth 20000 in
theorem gX1_drop_X1_isThere : GoodIn wsX1_drop (wsV RX1 37 RX1 yX1_isThere wsX1_isThere) := goodIn_app (goodIn_of _ (by decide +kernel)) ggX1_drop_X1_isThere
set_option maxRecDepth 20000 in
theorem ggX1_way_X1_isThere : GoodIn wsX1_way wsX1_isThere := goodIn_r _ [7, 8, 9, 10, 11, 12, 13, 14, 15, 16, 17, 18, 19, 20, 21] (by decide +kernel) (by decide +kernel)
set_option maxRecDepth 20000 in
theorem gX1_way_X1_isThere : GoodIn wsX1_way (wsV RX1 37 RX1 yX1_isThere wsX1_isThere) := goodIn_app (goodIn_of _ (by decide +kernel)) ggX1_way_X1_isThere
set_option maxRecDepth 20000 in
theorem ggX1_call_X1_way : GoodIn wsX1_call wsX1_way := goodIn_r _ [14, 3, 5, 15, 16, 17, 13, 18, 19, 38, 39, 40, 41, 42, 43, 44, 45, 46, 47, 48, 49, 50] (by decide +kernel) (by decide +kernel)
set_option maxRecDepth 20000 in
theorem gX1_call_X1_way : GoodIn wsX1_call (wsV RX1 57 RX1 yX1_way wsX1_way) := goodIn_app (goodIn_of _ (by decide +kernel)) ggX1_call_X1_way
set_option maxRecDepth 20000 in
theorem ggX1_call_X1_told : GoodIn wsX1_call wsX1_told := goodIn_r _ [23, 24, 25, 26, 27, 3, 28, 29, 30, 38, 39, 40, 41, 42, 43, 44, 45, 46, 47, 48, 49, 50] (by decide +kernel) (by decide +kernel)
set_option maxRecDepth 20000 in
theorem gX1_call_X1_told : GoodIn wsX1_call (wsV RX1 61 RX1 yX1_told wsX1_told) := goodIn_app (goodIn_of _ (by decide +kernel)) ggX1_call_X1_told
set_option maxRecDepth 20000 in
theorem ggX1_call_X1_logBehind : GoodIn wsX1_call wsX1_logBehind := goodIn_r _ [34, 1, 35, 36, 37, 5, 38, 39, 40, 41, 42, 43, 44, 45, 46, 47, 48, 49, 50] (by decide +kernel) (by decide +kernel)
set_option maxRecDepth 20000 in
theorem gX1_call_X1_logBehind : GoodIn wsX1_call (wsV RX1 65 RX1 yX1_logBehind wsX1_logBehind) := goodIn_app (goodIn_of _ (by decide +kernel)) ggX1_call_X1_logBehind
set_option maxRecDepth 20000 in
theorem ggX1_again_X1_way : GoodIn wsX1_again wsX1_way := goodIn_r _ [5, 6, 7, 8, 9, 10, 4, 11, 12, 24, 25, 26, 27, 28, 29, 30, 31, 32, 33, 34, 35, 36] (by decide +kernel) (by decide +kernel)
set_option maxRecDepth 20000 in
theorem gX1_again_X1_way : GoodIn wsX1_again (wsV RX1 57 RX1 yX1_way wsX1_way) := goodIn_app (goodIn_of _ (by decide +kernel)) ggX1_again_X1_way
set_option maxRecDepth 20000 in
theorem ggX1_again_X1_told : GoodIn wsX1_again wsX1_told := goodIn_r _ [16, 17, 18, 19, 20, 6, 21, 22, 23, 24, 25, 26, 27, 28, 29, 30, 31, 32, 33, 34, 35, 36] (by decide +kernel) (by decide +kernel)
set_option maxRecDepth 20000 in
theorem gX1_again_X1_told : GoodIn wsX1_again (wsV RX1 61 RX1 yX1_told wsX1_told) := goodIn_app (goodIn_of _ (by decide +kernel)) ggX1_again_X1_told
set_option maxRecDepth 20000 in
theorem ggL_law_X0_init : GoodIn wsL_law wsX0_init := goodIn_r _ [8, 9, 10, 11, 12, 13, 14, 15, 16, 17, 18, 19, 20, 21, 22, 23, 24, 25, 26, 27, 28, 29, 183, 184, 185, 186, 187, 188, 189, 190, 191, 192, 193, 194, 195, 196] (by decide +kernel) (by decide +kernel)
set_option maxRecDepth 20000 in
theorem gL_law_X0_init : GoodIn wsL_law (wsX0_init) := ggL_law_X0_init
set_option maxRecDepth 20000 in
theorem ggL_law_X1_init : GoodIn wsL_law wsX1_init := goodIn_r _ [32, 33, 10, 11, 17, 34, 35, 12, 36, 37, 15, 38, 39, 40, 197, 198, 199, 200, 201, 202, 203, 204, 205, 206, 207, 208, 209] (by decide +kernel) (by decide +kernel)
set_option maxRecDepth 20000 in
theorem gL_law_X1_init : GoodIn wsL_law (wsX1_init) := ggL_law_X1_init
set_option maxRecDepth 20000 in
theorem ggL_law_X0_collect : GoodIn wsL_law wsX0_collect := goodIn_r _ [44, 20, 45, 21, 183, 184, 185, 186, 187, 188, 189, 190, 191, 192, 193, 194, 195, 196] (by decide +kernel) (by decide +kernel)
set_option maxRecDepth 20000 in
theorem gL_law_X0_collect : GoodIn wsL_law (wsV RL 15 RX0 yX0_collect wsX0_collect) := goodIn_app (goodIn_of _ (by decide +kernel)) ggL_law_X0_collect
set_option maxRecDepth 20000 in
theorem ggL_law_X1_collect : GoodIn wsL_law wsX1_collect := goodIn_r _ [49, 50, 34, 197, 198, 199, 200, 201, 202, 203, 204, 205, 206, 207, 208, 209] (by decide +kernel) (by decide +kernel)
set_option maxRecDepth 20000 in
theorem gL_law_X1_collect : GoodIn wsL_law (wsV RL 19 RX1 yX1_collect wsX1_collect) := goodIn_app (goodIn_of _ (by decide +kernel)) ggL_law_X1_collect
set_option maxRecDepth 20000 in
theorem ggL_law_X0_answer : GoodIn wsL_law wsX0_answer := goodIn_r _ [54, 18, 19, 55, 56, 2, 57, 183, 184, 185, 186, 187, 188, 189, 190, 191, 192, 193, 194, 195, 196] (by decide +kernel) (by decide +kernel)
set_option maxRecDepth 20000 in
theorem gL_law_X0_answer : GoodIn wsL_law (wsV RL 20 RX0 yX0_answer wsX0_answer) := goodIn_app (goodIn_of _ (by decide +kernel)) ggL_law_X0_answer
set_option maxRecDepth 20000 in
theorem ggL_law_X1_answer : GoodIn wsL_law wsX1_answer := goodIn_r _ [61, 35, 36, 197, 198, 199, 200, 201, 202, 203, 204, 205, 206, 207, 208, 209] (by decide +kernel) (by decide +kernel)
set_option maxRecDepth 20000 in
theorem gL_law_X1_answer : GoodIn wsL_law (wsV RL 24 RX1 yX1_answer wsX1_answer) := goodIn_app (goodIn_of _ (by decide +kernel)) ggL_law_X1_answer
set_option maxRecDepth 20000 in
theorem ggL_law_X0_fails : GoodIn wsL_law wsX0_fails := goodIn_r _ [65, 19, 55, 56, 2, 57, 183, 184, 185, 186, 187, 188, 189, 190, 191, 192, 193, 194, 195, 196] (by decide +kernel) (by decide +kernel)
set_option maxRecDepth 20000 in
theorem gL_law_X0_fails : GoodIn wsL_law (wsV RL 25 RX0 yX0_fails wsX0_fails) := goodIn_app (goodIn_of _ (by decide +kernel)) ggL_law_X0_fails
set_option maxRecDepth 20000 in
theorem ggL_law_X1_fails : GoodIn wsL_law wsX1_fails := goodIn_r _ [69, 36, 197, 198, 199, 200, 201, 202, 203, 204, 205, 206, 207, 208, 209] (by decide +kernel) (by decide +kernel)
set_option maxRecDepth 20000 in
theorem gL_law_X1_fails : GoodIn wsL_law (wsV RL 29 RX1 yX1_fails wsX1_fails) := goodIn_app (goodIn_of _ (by decide +kernel)) ggL_law_X1_fails
set_option maxRecDepth 20000 in
theorem ggL_law_X0_make : GoodIn wsL_law wsX0_make := goodIn_r _ [73, 13, 14, 16, 74, 75, 2, 76, 183, 184, 185, 186, 187, 188, 189, 190, 191, 192, 193, 194, 195, 196] (by decide +kernel) (by decide +kernel)
set_option maxRecDepth 20000 in
theorem gL_law_X0_make : GoodIn wsL_law (wsV RL 30 RX0 yX0_make wsX0_make) := goodIn_app (goodIn_of _ (by decide +kernel)) ggL_law_X0_make
set_option maxRecDepth 20000 in
theorem ggL_law_X1_make : GoodIn wsL_law wsX1_make := goodIn_r _ [80, 37, 38, 197, 198, 199, 200, 201, 202, 203, 204, 205, 206, 207, 208, 209] (by decide +kernel) (by decide +kernel)
set_option maxRecDepth 20000 in
theorem gL_law_X1_make : GoodIn wsL_law (wsV RL 34 RX1 yX1_make wsX1_make) := goodIn_app (goodIn_of _ (by decide +kernel)) ggL_law_X1_make
set_option maxRecDepth 20000 in
theorem ggL_law_X0_call : GoodIn wsL_law wsX0_call := goodIn_r _ [84, 85, 29, 86, 87, 88, 2, 89, 90, 20, 91, 55, 56, 57, 92, 93, 94, 95, 16, 96, 97, 98, 74, 75, 76, 99, 100, 101, 102, 19, 103, 18, 21, 104, 105, 106, 107, 108, 109, 110, 111, 112, 113, 114, 23, 24, 25, 26, 27, 22, 183, 184, 185, 186, 187, 188, 189, 190, 191, 192, 193, 194, 195, 196] (by decide +kernel) (by decide +kernel)
set_option maxRecDepth 20000 in
theorem gL_law_X0_call : GoodIn wsL_law (wsV RL 35 RX0 yX0_call wsX0_call) := goodIn_app (goodIn_of _ (by decide +kernel)) ggL_law_X0_call
set_option maxRecDepth 20000 in
theorem ggL_law_X1_call : GoodIn wsL_law wsX1_call := goodIn_r _ [118, 40, 119, 50, 120, 36, 121, 122, 123, 124, 125, 126, 127, 5, 128, 129, 130, 131, 132, 38, 133, 134, 135, 136, 137, 138, 139, 140, 141, 34, 35, 142, 143, 144, 145, 146, 147, 148, 197, 198, 199, 200, 201, 202, 203, 204, 205, 206, 207, 208, 209] (by decide +kernel) (by decide +kernel)
set_option maxRecDepth 20000 in
theorem gL_law_X1_call : GoodIn wsL_law (wsV RL 39 RX1 yX1_call wsX1_call) := goodIn_app (goodIn_of _ (by decide +kernel)) ggL_law_X1_call
set_option maxRecDepth 20000 in
theorem ggL_law_X0_told : GoodIn wsL_law wsX0_told := goodIn_r _ [152, 22, 23, 24, 25, 26, 27, 20, 29, 183, 184, 185, 186, 187, 188, 189, 190, 191, 192, 193, 194, 195, 196] (by decide +kernel) (by decide +kernel)
set_option maxRecDepth 20000 in
theorem gL_law_X0_told : GoodIn wsL_law (wsV RL 40 RX0 yX0_told wsX0_told) := goodIn_app (goodIn_of _ (by decide +kernel)) ggL_law_X0_told
set_option maxRecDepth 20000 in
theorem ggL_law_X0_drop : GoodIn wsL_law wsX0_drop := goodIn_r _ [156, 16, 14, 96, 97, 2, 98, 74, 75, 76, 183, 184, 185, 186, 187, 188, 189, 190, 191, 192, 193, 194, 195, 196] (by decide +kernel) (by decide +kernel)
set_option maxRecDepth 20000 in
theorem gL_law_X0_drop : GoodIn wsL_law (wsV RL 45 RX0 yX0_drop wsX0_drop) := goodIn_app (goodIn_of _ (by decide +kernel)) ggL_law_X0_drop
set_option maxRecDepth 20000 in
theorem ggL_law_X1_drop : GoodIn wsL_law wsX1_drop := goodIn_r _ [160, 38, 129, 130, 131, 5, 132, 197, 198, 199, 200, 201, 202, 203, 204, 205, 206, 207, 208, 209] (by decide +kernel) (by decide +kernel)
set_option maxRecDepth 20000 in
theorem gL_law_X1_drop : GoodIn wsL_law (wsV RL 49 RX1 yX1_drop wsX1_drop) := goodIn_app (goodIn_of _ (by decide +kernel)) ggL_law_X1_drop
set_option maxRecDepth 20000 in
theorem ggL_law_X0_numbers : GoodIn wsL_law wsX0_numbers := goodIn_r _ [164, 14, 74, 75, 2, 76, 183, 184, 185, 186, 187, 188, 189, 190, 191, 192, 193, 194, 195, 196] (by decide +kernel) (by decide +kernel)
set_option maxRecDepth 20000 in
theorem gL_law_X0_numbers : GoodIn wsL_law (wsV RL 50 RX0 yX0_numbers wsX0_numbers) := goodIn_app (goodIn_of _ (by decide +kernel)) ggL_law_X0_numbers
set_option maxRecDepth 20000 in
theorem ggL_law_X1_numbers : GoodIn wsL_law wsX1_numbers := goodIn_r _ [168, 38, 197, 198, 199, 200, 201, 202, 203, 204, 205, 206, 207, 208, 209] (by decide +kernel) (by decide +kernel)
set_option maxRecDepth 20000 in
theorem gL_law_X1_numbers : GoodIn wsL_law (wsV RL 53 RX1 yX1_numbers wsX1_numbers) := goodIn_app (goodIn_of _ (by decide +kernel)) ggL_law_X1_numbers
set_option maxRecDepth 20000 in
theorem ggL_law_X0_isThere : GoodIn wsL_law wsX0_isThere := goodIn_r _ [95, 16, 96, 97, 2, 98, 74, 75, 76, 183, 184, 185, 186, 187, 188, 189, 190, 191, 192, 193, 194, 195, 196] (by decide +kernel) (by decide +kernel)
set_option maxRecDepth 20000 in
theorem gL_law_X0_isThere : GoodIn wsL_law (wsV RL 54 RX0 yX0_isThere wsX0_isThere) := goodIn_app (goodIn_of _ (by decide +kernel)) ggL_law_X0_isThere
set_option maxRecDepth 20000 in
theorem ggL_law_X1_isThere : GoodIn wsL_law wsX1_isThere := goodIn_r _ [132, 38, 197, 198, 199, 200, 201, 202, 203, 204, 205, 206, 207, 208, 209] (by decide +kernel) (by decide +kernel)
set_option maxRecDepth 20000 in
theorem gL_law_X1_isThere : GoodIn wsL_law (wsV RL 57 RX1 yX1_isThere wsX1_isThere) := goodIn_app (goodIn_of _ (by decide +kernel)) ggL_law_X1_isThere
set_option maxRecDepth 20000 in
theorem ggL_law_X0_again : GoodIn wsL_law wsX0_again := goodIn_r _ [174, 86, 87, 88, 2, 89, 85, 90, 20, 91, 55, 56, 57, 92, 93, 94, 95, 16, 96, 97, 98, 74, 75, 76, 99, 100, 101, 102, 19, 103, 18, 21, 183, 184, 185, 186, 187, 188, 189, 190, 191, 192, 193, 194, 195, 196] (by decide +kernel) (by decide +kernel)
set_option maxRecDepth 20000 in
theorem gL_law_X0_again : GoodIn wsL_law (wsV RL 58 RX0 yX0_again wsX0_again) := goodIn_app (goodIn_of _ (by decide +kernel)) ggL_law_X0_again
set_option maxRecDepth 20000 in
theorem ggL_law_X1_again : GoodIn wsL_law wsX1_again := goodIn_r _ [178, 125, 126, 127, 5, 128, 50, 36, 129, 130, 131, 132, 38, 133, 134, 135, 136, 137, 138, 139, 140, 141, 34, 35, 197, 198, 199, 200, 201, 202, 203, 204, 205, 206, 207, 208, 209] (by decide +kernel) (by decide +kernel)
set_option maxRecDepth 20000 in
theorem gL_law_X1_again : GoodIn wsL_law (wsV RL 61 RX1 yX1_again wsX1_again) := goodIn_app (goodIn_of _ (by decide +kernel)) ggL_law_X1_again
set_option maxRecDepth 20000 in
theorem ggL_law_X0_log : GoodIn wsL_law wsX0_log := goodIn_r _ [182, 86, 87, 88, 2, 89, 85, 90, 20, 91, 55, 56, 57, 92, 93, 94, 95, 16, 96, 97, 98, 74, 75, 76, 99, 100, 101, 102, 19, 103, 18, 21, 104, 105, 106, 107, 29, 108, 109, 110, 183, 184, 185, 186, 187, 188, 189, 190, 191, 192, 193, 194, 195, 196] (by decide +kernel) (by decide +kernel)
set_option maxRecDepth 20000 in
theorem gL_law_X0_log : GoodIn wsL_law (wsV RL 62 RX0 yX0_log wsX0_log) := goodIn_app (goodIn_of _ (by decide +kernel)) ggL_law_X0_log
abbrev vwCl : List vw_C := [(RX0, TX0, 14), (RX1, TX1, 13)]
end
section
theorem dX0_init_0 : decode cX0_init 0 = .ok (.aload_n 0, 1) := by decide +kernel
theorem dX0_init_1 : decode cX0_init 1 = .ok (.invokespecial 3, 3) := by decide +kernel
theorem dX0_init_4 : decode cX0_init 4 = .ok (.aload_n 0, 1) := by decide +kernel
theorem dX0_init_5 : decode cX0_init 5 = .ok (.bipush 10, 2) := by decide +kernel
theorem dX0_init_7 : decode cX0_init 7 = .ok (.newarray .int, 2) := by decide +kernel
theorem dX0_init_9 : decode cX0_init 9 = .ok (.putfield 9, 3) := by decide +kernel
theorem dX0_init_12 : decode cX0_init 12 = .ok (.aload_n 0, 1) := by decide +kernel
theorem dX0_init_13 : decode cX0_init 13 = .ok (.bipush 10, 2) := by decide +kernel
theorem dX0_init_15 : decode cX0_init 15 = .ok (.newarray .int, 2) := by decide +kernel
theorem dX0_init_17 : decode cX0_init 17 = .ok (.putfield 13, 3) := by decide +kernel
theorem dX0_init_20 : decode cX0_init 20 = .ok (.aload_n 0, 1) := by decide +kernel
theorem dX0_init_21 : decode cX0_init 21 = .ok (.sipush 1000, 3) := by decide +kernel
theorem dX0_init_24 : decode cX0_init 24 = .ok (.newarray .boolean, 2) := by decide +kernel
theorem dX0_init_26 : decode cX0_init 26 = .ok (.putfield 16, 3) := by decide +kernel
theorem dX0_init_29 : decode cX0_init 29 = .ok (.aload_n 0, 1) := by decide +kernel
theorem dX0_init_30 : decode cX0_init 30 = .ok (.bipush 20, 2) := by decide +kernel
theorem dX0_init_32 : decode cX0_init 32 = .ok (.newarray .long, 2) := by decide +kernel
theorem dX0_init_34 : decode cX0_init 34 = .ok (.putfield 20, 3) := by decide +kernel
theorem dX0_init_37 : decode cX0_init 37 = .ok (.aload_n 0, 1) := by decide +kernel
theorem dX0_init_38 : decode cX0_init 38 = .ok (.bipush 20, 2) := by decide +kernel
theorem dX0_init_40 : decode cX0_init 40 = .ok (.newarray .int, 2) := by decide +kernel
theorem dX0_init_42 : decode cX0_init 42 = .ok (.putfield 24, 3) := by decide +kernel
theorem dX0_init_45 : decode cX0_init 45 = .ok (.aload_n 0, 1) := by decide +kernel
theorem dX0_init_46 : decode cX0_init 46 = .ok (.iconst 0, 1) := by decide +kernel
theorem dX0_init_47 : decode cX0_init 47 = .ok (.putfield 27, 3) := by decide +kernel
theorem dX0_init_50 : decode cX0_init 50 = .ok (.aload_n 0, 1) := by decide +kernel
theorem dX0_init_51 : decode cX0_init 51 = .ok (.lconst 0, 1) := by decide +kernel
theorem dX0_init_52 : decode cX0_init 52 = .ok (.putfield 31, 3) := by decide +kernel
theorem dX0_init_55 : decode cX0_init 55 = .ok (.aload_n 0, 1) := by decide +kernel
theorem dX0_init_56 : decode cX0_init 56 = .ok (.lconst 0, 1) := by decide +kernel
theorem dX0_init_57 : decode cX0_init 57 = .ok (.putfield 35, 3) := by decide +kernel
theorem dX0_init_60 : decode cX0_init 60 = .ok (.aload_n 0, 1) := by decide +kernel
theorem dX0_init_61 : decode cX0_init 61 = .ok (.lconst 0, 1) := by decide +kernel
theorem dX0_init_62 : decode cX0_init 62 = .ok (.putfield 38, 3) := by decide +kernel
theorem dX0_init_65 : decode cX0_init 65 = .ok (.aload_n 0, 1) := by decide +kernel
theorem dX0_init_66 : decode cX0_init 66 = .ok (.lconst 0, 1) := by decide +kernel
theorem dX0_init_67 : decode cX0_init 67 = .ok (.putfield 41, 3) := by decide +kernel
theorem dX0_init_70 : decode cX0_init 70 = .ok (.aload_n 0, 1) := by decide +kernel
theorem dX0_init_71 : decode cX0_init 71 = .ok (.iconst 0, 1) := by decide +kernel
theorem dX0_init_72 : decode cX0_init 72 = .ok (.putfield 44, 3) := by decide +kernel
theorem dX0_init_75 : decode cX0_init 75 = .ok (.aload_n 0, 1) := by decide +kernel
theorem dX0_init_76 : decode cX0_init 76 = .ok (.iconst 0, 1) := by decide +kernel
theorem dX0_init_77 : decode cX0_init 77 = .ok (.putfield 47, 3) := by decide +kernel
theorem dX0_init_80 : decode cX0_init 80 = .ok (.aload_n 0, 1) := by decide +kernel
theorem dX0_init_81 : decode cX0_init 81 = .ok (.iconst 0, 1) := by decide +kernel
theorem dX0_init_82 : decode cX0_init 82 = .ok (.putfield 50, 3) := by decide +kernel
theorem dX0_init_85 : decode cX0_init 85 = .ok (.aload_n 0, 1) := by decide +kernel
theorem dX0_init_86 : decode cX0_init 86 = .ok (.ldc2_w 53, 3) := by decide +kernel
theorem dX0_init_89 : decode cX0_init 89 = .ok (.putfield 55, 3) := by decide +kernel
theorem dX0_init_92 : decode cX0_init 92 = .ok (.return_, 1) := by decide +kernel
theorem dX0_collect_0 : decode cX0_collect 0 = .ok (.aload_n 0, 1) := by decide +kernel
theorem dX0_collect_1 : decode cX0_collect 1 = .ok (.getfield 27, 3) := by decide +kernel
theorem dX0_collect_4 : decode cX0_collect 4 = .ok (.bipush 40, 2) := by decide +kernel
theorem dX0_collect_6 : decode cX0_collect 6 = .ok (.if_icmp .lt 6, 3) := by decide +kernel
theorem dX0_collect_9 : decode cX0_collect 9 = .ok (.bipush (-14), 2) := by decide +kernel
theorem dX0_collect_11 : decode cX0_collect 11 = .ok (.ireturn, 1) := by decide +kernel
theorem dX0_collect_12 : decode cX0_collect 12 = .ok (.aload_n 0, 1) := by decide +kernel
theorem dX0_collect_13 : decode cX0_collect 13 = .ok (.ldc2_w 58, 3) := by decide +kernel
theorem dX0_collect_16 : decode cX0_collect 16 = .ok (.aload_n 0, 1) := by decide +kernel
theorem dX0_collect_17 : decode cX0_collect 17 = .ok (.getfield 31, 3) := by decide +kernel
theorem dX0_collect_20 : decode cX0_collect 20 = .ok (.lmul, 1) := by decide +kernel
theorem dX0_collect_21 : decode cX0_collect 21 = .ok (.lload_n 1, 1) := by decide +kernel
theorem dX0_collect_22 : decode cX0_collect 22 = .ok (.ladd, 1) := by decide +kernel
theorem dX0_collect_23 : decode cX0_collect 23 = .ok (.putfield 31, 3) := by decide +kernel
theorem dX0_collect_26 : decode cX0_collect 26 = .ok (.aload_n 0, 1) := by decide +kernel
theorem dX0_collect_27 : decode cX0_collect 27 = .ok (.dup, 1) := by decide +kernel
theorem dX0_collect_28 : decode cX0_collect 28 = .ok (.getfield 27, 3) := by decide +kernel
theorem dX0_collect_31 : decode cX0_collect 31 = .ok (.iconst 1, 1) := by decide +kernel
theorem dX0_collect_32 : decode cX0_collect 32 = .ok (.iadd, 1) := by decide +kernel
theorem dX0_collect_33 : decode cX0_collect 33 = .ok (.putfield 27, 3) := by decide +kernel
theorem dX0_collect_36 : decode cX0_collect 36 = .ok (.aload_n 0, 1) := by decide +kernel
theorem dX0_collect_37 : decode cX0_collect 37 = .ok (.getfield 27, 3) := by decide +kernel
theorem dX0_collect_40 : decode cX0_collect 40 = .ok (.ireturn, 1) := by decide +kernel
theorem dX0_answer_0 : decode cX0_answer 0 = .ok (.iload_n 1, 1) := by decide +kernel
theorem dX0_answer_1 : decode cX0_answer 1 = .ok (.invokestatic 60, 3) := by decide +kernel
theorem dX0_answer_4 : decode cX0_answer 4 = .ok (.ifCond .ne 5, 3) := by decide +kernel
theorem dX0_answer_7 : decode cX0_answer 7 = .ok (.iconst (-1), 1) := by decide +kernel
theorem dX0_answer_8 : decode cX0_answer 8 = .ok (.ireturn, 1) := by decide +kernel
theorem dX0_answer_9 : decode cX0_answer 9 = .ok (.aload_n 0, 1) := by decide +kernel
theorem dX0_answer_10 : decode cX0_answer 10 = .ok (.getfield 20, 3) := by decide +kernel
theorem dX0_answer_13 : decode cX0_answer 13 = .ok (.iload_n 1, 1) := by decide +kernel
theorem dX0_answer_14 : decode cX0_answer 14 = .ok (.lload_n 2, 1) := by decide +kernel
theorem dX0_answer_15 : decode cX0_answer 15 = .ok (.lastore, 1) := by decide +kernel
theorem dX0_answer_16 : decode cX0_answer 16 = .ok (.aload_n 0, 1) := by decide +kernel
theorem dX0_answer_17 : decode cX0_answer 17 = .ok (.getfield 24, 3) := by decide +kernel
theorem dX0_answer_20 : decode cX0_answer 20 = .ok (.iload_n 1, 1) := by decide +kernel
theorem dX0_answer_21 : decode cX0_answer 21 = .ok (.iconst 0, 1) := by decide +kernel
theorem dX0_answer_22 : decode cX0_answer 22 = .ok (.iastore, 1) := by decide +kernel
theorem dX0_answer_23 : decode cX0_answer 23 = .ok (.iconst 1, 1) := by decide +kernel
theorem dX0_answer_24 : decode cX0_answer 24 = .ok (.ireturn, 1) := by decide +kernel
theorem dX0_fails_0 : decode cX0_fails 0 = .ok (.iload_n 1, 1) := by decide +kernel
theorem dX0_fails_1 : decode cX0_fails 1 = .ok (.invokestatic 60, 3) := by decide +kernel
theorem dX0_fails_4 : decode cX0_fails 4 = .ok (.ifCond .eq 12, 3) := by decide +kernel
theorem dX0_fails_7 : decode cX0_fails 7 = .ok (.iload_n 2, 1) := by decide +kernel
theorem dX0_fails_8 : decode cX0_fails 8 = .ok (.ifCond .lt 8, 3) := by decide +kernel
theorem dX0_fails_11 : decode cX0_fails 11 = .ok (.iload_n 2, 1) := by decide +kernel
theorem dX0_fails_12 : decode cX0_fails 12 = .ok (.iconst 3, 1) := by decide +kernel
theorem dX0_fails_13 : decode cX0_fails 13 = .ok (.if_icmp .le 5, 3) := by decide +kernel
theorem dX0_fails_16 : decode cX0_fails 16 = .ok (.iconst (-1), 1) := by decide +kernel
theorem dX0_fails_17 : decode cX0_fails 17 = .ok (.ireturn, 1) := by decide +kernel
theorem dX0_fails_18 : decode cX0_fails 18 = .ok (.aload_n 0, 1) := by decide +kernel
theorem dX0_fails_19 : decode cX0_fails 19 = .ok (.getfield 24, 3) := by decide +kernel
theorem dX0_fails_22 : decode cX0_fails 22 = .ok (.iload_n 1, 1) := by decide +kernel
theorem dX0_fails_23 : decode cX0_fails 23 = .ok (.iload_n 2, 1) := by decide +kernel
theorem dX0_fails_24 : decode cX0_fails 24 = .ok (.iastore, 1) := by decide +kernel
theorem dX0_fails_25 : decode cX0_fails 25 = .ok (.iconst 1, 1) := by decide +kernel
theorem dX0_fails_26 : decode cX0_fails 26 = .ok (.ireturn, 1) := by decide +kernel
theorem dX0_make_0 : decode cX0_make 0 = .ok (.iload_n 1, 1) := by decide +kernel
theorem dX0_make_1 : decode cX0_make 1 = .ok (.invokestatic 64, 3) := by decide +kernel
theorem dX0_make_4 : decode cX0_make 4 = .ok (.ifCond .ne 5, 3) := by decide +kernel
theorem dX0_make_7 : decode cX0_make 7 = .ok (.iconst (-1), 1) := by decide +kernel
theorem dX0_make_8 : decode cX0_make 8 = .ok (.ireturn, 1) := by decide +kernel
theorem dX0_make_9 : decode cX0_make 9 = .ok (.aload_n 0, 1) := by decide +kernel
theorem dX0_make_10 : decode cX0_make 10 = .ok (.getfield 9, 3) := by decide +kernel
theorem dX0_make_13 : decode cX0_make 13 = .ok (.iload_n 1, 1) := by decide +kernel
theorem dX0_make_14 : decode cX0_make 14 = .ok (.iaload, 1) := by decide +kernel
theorem dX0_make_15 : decode cX0_make 15 = .ok (.bipush 99, 2) := by decide +kernel
theorem dX0_make_17 : decode cX0_make 17 = .ok (.if_icmp .lt 6, 3) := by decide +kernel
theorem dX0_make_20 : decode cX0_make 20 = .ok (.bipush (-14), 2) := by decide +kernel
theorem dX0_make_22 : decode cX0_make 22 = .ok (.ireturn, 1) := by decide +kernel
theorem dX0_make_23 : decode cX0_make 23 = .ok (.aload_n 0, 1) := by decide +kernel
theorem dX0_make_24 : decode cX0_make 24 = .ok (.getfield 9, 3) := by decide +kernel
theorem dX0_make_27 : decode cX0_make 27 = .ok (.iload_n 1, 1) := by decide +kernel
theorem dX0_make_28 : decode cX0_make 28 = .ok (.dup2, 1) := by decide +kernel
theorem dX0_make_29 : decode cX0_make 29 = .ok (.iaload, 1) := by decide +kernel
theorem dX0_make_30 : decode cX0_make 30 = .ok (.iconst 1, 1) := by decide +kernel
theorem dX0_make_31 : decode cX0_make 31 = .ok (.iadd, 1) := by decide +kernel
theorem dX0_make_32 : decode cX0_make 32 = .ok (.iastore, 1) := by decide +kernel
theorem dX0_make_33 : decode cX0_make 33 = .ok (.aload_n 0, 1) := by decide +kernel
theorem dX0_make_34 : decode cX0_make 34 = .ok (.getfield 13, 3) := by decide +kernel
theorem dX0_make_37 : decode cX0_make 37 = .ok (.iload_n 1, 1) := by decide +kernel
theorem dX0_make_38 : decode cX0_make 38 = .ok (.dup2, 1) := by decide +kernel
theorem dX0_make_39 : decode cX0_make 39 = .ok (.iaload, 1) := by decide +kernel
theorem dX0_make_40 : decode cX0_make 40 = .ok (.iconst 1, 1) := by decide +kernel
theorem dX0_make_41 : decode cX0_make 41 = .ok (.iadd, 1) := by decide +kernel
theorem dX0_make_42 : decode cX0_make 42 = .ok (.iastore, 1) := by decide +kernel
theorem dX0_make_43 : decode cX0_make 43 = .ok (.aload_n 0, 1) := by decide +kernel
theorem dX0_make_44 : decode cX0_make 44 = .ok (.getfield 16, 3) := by decide +kernel
theorem dX0_make_47 : decode cX0_make 47 = .ok (.iload_n 1, 1) := by decide +kernel
theorem dX0_make_48 : decode cX0_make 48 = .ok (.bipush 100, 2) := by decide +kernel
theorem dX0_make_50 : decode cX0_make 50 = .ok (.imul, 1) := by decide +kernel
theorem dX0_make_51 : decode cX0_make 51 = .ok (.aload_n 0, 1) := by decide +kernel
theorem dX0_make_52 : decode cX0_make 52 = .ok (.getfield 9, 3) := by decide +kernel
theorem dX0_make_55 : decode cX0_make 55 = .ok (.iload_n 1, 1) := by decide +kernel
theorem dX0_make_56 : decode cX0_make 56 = .ok (.iaload, 1) := by decide +kernel
theorem dX0_make_57 : decode cX0_make 57 = .ok (.iadd, 1) := by decide +kernel
theorem dX0_make_58 : decode cX0_make 58 = .ok (.iconst 1, 1) := by decide +kernel
theorem dX0_make_59 : decode cX0_make 59 = .ok (.bastore, 1) := by decide +kernel
theorem dX0_make_60 : decode cX0_make 60 = .ok (.iload_n 1, 1) := by decide +kernel
theorem dX0_make_61 : decode cX0_make 61 = .ok (.sipush 1000, 3) := by decide +kernel
theorem dX0_make_64 : decode cX0_make 64 = .ok (.imul, 1) := by decide +kernel
theorem dX0_make_65 : decode cX0_make 65 = .ok (.aload_n 0, 1) := by decide +kernel
theorem dX0_make_66 : decode cX0_make 66 = .ok (.getfield 9, 3) := by decide +kernel
theorem dX0_make_69 : decode cX0_make 69 = .ok (.iload_n 1, 1) := by decide +kernel
theorem dX0_make_70 : decode cX0_make 70 = .ok (.iaload, 1) := by decide +kernel
theorem dX0_make_71 : decode cX0_make 71 = .ok (.iadd, 1) := by decide +kernel
theorem dX0_make_72 : decode cX0_make 72 = .ok (.ireturn, 1) := by decide +kernel
theorem dX0_call_0 : decode cX0_call 0 = .ok (.aload_n 0, 1) := by decide +kernel
theorem dX0_call_1 : decode cX0_call 1 = .ok (.iload_n 1, 1) := by decide +kernel
theorem dX0_call_2 : decode cX0_call 2 = .ok (.iload_n 2, 1) := by decide +kernel
theorem dX0_call_3 : decode cX0_call 3 = .ok (.invokevirtual 67, 3) := by decide +kernel
theorem dX0_call_6 : decode cX0_call 6 = .ok (.lstore 5, 2) := by decide +kernel
theorem dX0_call_8 : decode cX0_call 8 = .ok (.lload 5, 2) := by decide +kernel
theorem dX0_call_10 : decode cX0_call 10 = .ok (.ldc2_w 71, 3) := by decide +kernel
theorem dX0_call_13 : decode cX0_call 13 = .ok (.lcmp, 1) := by decide +kernel
theorem dX0_call_14 : decode cX0_call 14 = .ok (.ifCond .ne 7, 3) := by decide +kernel
theorem dX0_call_17 : decode cX0_call 17 = .ok (.ldc2_w 71, 3) := by decide +kernel
theorem dX0_call_20 : decode cX0_call 20 = .ok (.lreturn, 1) := by decide +kernel
theorem dX0_call_21 : decode cX0_call 21 = .ok (.aload_n 0, 1) := by decide +kernel
theorem dX0_call_22 : decode cX0_call 22 = .ok (.lload 5, 2) := by decide +kernel
theorem dX0_call_24 : decode cX0_call 24 = .ok (.iload_n 1, 1) := by decide +kernel
theorem dX0_call_25 : decode cX0_call 25 = .ok (.lload_n 3, 1) := by decide +kernel
theorem dX0_call_26 : decode cX0_call 26 = .ok (.invokevirtual 73, 3) := by decide +kernel
theorem dX0_call_29 : decode cX0_call 29 = .ok (.lstore 7, 2) := by decide +kernel
theorem dX0_call_31 : decode cX0_call 31 = .ok (.aload_n 0, 1) := by decide +kernel
theorem dX0_call_32 : decode cX0_call 32 = .ok (.aload_n 0, 1) := by decide +kernel
theorem dX0_call_33 : decode cX0_call 33 = .ok (.lload 5, 2) := by decide +kernel
theorem dX0_call_35 : decode cX0_call 35 = .ok (.iload_n 1, 1) := by decide +kernel
theorem dX0_call_36 : decode cX0_call 36 = .ok (.iload_n 2, 1) := by decide +kernel
theorem dX0_call_37 : decode cX0_call 37 = .ok (.lload 7, 2) := by decide +kernel
theorem dX0_call_39 : decode cX0_call 39 = .ok (.invokevirtual 77, 3) := by decide +kernel
theorem dX0_call_42 : decode cX0_call 42 = .ok (.putfield 55, 3) := by decide +kernel
theorem dX0_call_45 : decode cX0_call 45 = .ok (.aload_n 0, 1) := by decide +kernel
theorem dX0_call_46 : decode cX0_call 46 = .ok (.lload 5, 2) := by decide +kernel
theorem dX0_call_48 : decode cX0_call 48 = .ok (.iload_n 1, 1) := by decide +kernel
theorem dX0_call_49 : decode cX0_call 49 = .ok (.iload_n 2, 1) := by decide +kernel
theorem dX0_call_50 : decode cX0_call 50 = .ok (.invokevirtual 81, 3) := by decide +kernel
theorem dX0_call_53 : decode cX0_call 53 = .ok (.lload 7, 2) := by decide +kernel
theorem dX0_call_55 : decode cX0_call 55 = .ok (.lreturn, 1) := by decide +kernel
theorem dX0_told_0 : decode cX0_told 0 = .ok (.iload_n 1, 1) := by decide +kernel
theorem dX0_told_1 : decode cX0_told 1 = .ok (.tableswitch 91 0 7 #[47, 52, 57, 62, 68, 74, 80, 86], 47) := by decide +kernel
theorem dX0_told_48 : decode cX0_told 48 = .ok (.aload_n 0, 1) := by decide +kernel
theorem dX0_told_49 : decode cX0_told 49 = .ok (.getfield 35, 3) := by decide +kernel
theorem dX0_told_52 : decode cX0_told 52 = .ok (.lreturn, 1) := by decide +kernel
theorem dX0_told_53 : decode cX0_told 53 = .ok (.aload_n 0, 1) := by decide +kernel
theorem dX0_told_54 : decode cX0_told 54 = .ok (.getfield 38, 3) := by decide +kernel
theorem dX0_told_57 : decode cX0_told 57 = .ok (.lreturn, 1) := by decide +kernel
theorem dX0_told_58 : decode cX0_told 58 = .ok (.aload_n 0, 1) := by decide +kernel
theorem dX0_told_59 : decode cX0_told 59 = .ok (.getfield 41, 3) := by decide +kernel
theorem dX0_told_62 : decode cX0_told 62 = .ok (.lreturn, 1) := by decide +kernel
theorem dX0_told_63 : decode cX0_told 63 = .ok (.aload_n 0, 1) := by decide +kernel
theorem dX0_told_64 : decode cX0_told 64 = .ok (.getfield 44, 3) := by decide +kernel
theorem dX0_told_67 : decode cX0_told 67 = .ok (.i2l, 1) := by decide +kernel
theorem dX0_told_68 : decode cX0_told 68 = .ok (.lreturn, 1) := by decide +kernel
theorem dX0_told_69 : decode cX0_told 69 = .ok (.aload_n 0, 1) := by decide +kernel
theorem dX0_told_70 : decode cX0_told 70 = .ok (.getfield 47, 3) := by decide +kernel
theorem dX0_told_73 : decode cX0_told 73 = .ok (.i2l, 1) := by decide +kernel
theorem dX0_told_74 : decode cX0_told 74 = .ok (.lreturn, 1) := by decide +kernel
theorem dX0_told_75 : decode cX0_told 75 = .ok (.aload_n 0, 1) := by decide +kernel
theorem dX0_told_76 : decode cX0_told 76 = .ok (.getfield 50, 3) := by decide +kernel
theorem dX0_told_79 : decode cX0_told 79 = .ok (.i2l, 1) := by decide +kernel
theorem dX0_told_80 : decode cX0_told 80 = .ok (.lreturn, 1) := by decide +kernel
theorem dX0_told_81 : decode cX0_told 81 = .ok (.aload_n 0, 1) := by decide +kernel
theorem dX0_told_82 : decode cX0_told 82 = .ok (.getfield 27, 3) := by decide +kernel
theorem dX0_told_85 : decode cX0_told 85 = .ok (.i2l, 1) := by decide +kernel
theorem dX0_told_86 : decode cX0_told 86 = .ok (.lreturn, 1) := by decide +kernel
theorem dX0_told_87 : decode cX0_told 87 = .ok (.aload_n 0, 1) := by decide +kernel
theorem dX0_told_88 : decode cX0_told 88 = .ok (.getfield 55, 3) := by decide +kernel
theorem dX0_told_91 : decode cX0_told 91 = .ok (.lreturn, 1) := by decide +kernel
theorem dX0_told_92 : decode cX0_told 92 = .ok (.lconst 0, 1) := by decide +kernel
theorem dX0_told_93 : decode cX0_told 93 = .ok (.lreturn, 1) := by decide +kernel
theorem dX0_drop_0 : decode cX0_drop 0 = .ok (.iload_n 1, 1) := by decide +kernel
theorem dX0_drop_1 : decode cX0_drop 1 = .ok (.invokestatic 85, 3) := by decide +kernel
theorem dX0_drop_4 : decode cX0_drop 4 = .ok (.istore_n 2, 1) := by decide +kernel
theorem dX0_drop_5 : decode cX0_drop 5 = .ok (.iload_n 2, 1) := by decide +kernel
theorem dX0_drop_6 : decode cX0_drop 6 = .ok (.iconst (-1), 1) := by decide +kernel
theorem dX0_drop_7 : decode cX0_drop 7 = .ok (.if_icmp .eq 12, 3) := by decide +kernel
theorem dX0_drop_10 : decode cX0_drop 10 = .ok (.aload_n 0, 1) := by decide +kernel
theorem dX0_drop_11 : decode cX0_drop 11 = .ok (.getfield 16, 3) := by decide +kernel
theorem dX0_drop_14 : decode cX0_drop 14 = .ok (.iload_n 2, 1) := by decide +kernel
theorem dX0_drop_15 : decode cX0_drop 15 = .ok (.baload, 1) := by decide +kernel
theorem dX0_drop_16 : decode cX0_drop 16 = .ok (.ifCond .ne 5, 3) := by decide +kernel
theorem dX0_drop_19 : decode cX0_drop 19 = .ok (.iconst 0, 1) := by decide +kernel
theorem dX0_drop_20 : decode cX0_drop 20 = .ok (.ireturn, 1) := by decide +kernel
theorem dX0_drop_21 : decode cX0_drop 21 = .ok (.aload_n 0, 1) := by decide +kernel
theorem dX0_drop_22 : decode cX0_drop 22 = .ok (.getfield 16, 3) := by decide +kernel
theorem dX0_drop_25 : decode cX0_drop 25 = .ok (.iload_n 2, 1) := by decide +kernel
theorem dX0_drop_26 : decode cX0_drop 26 = .ok (.iconst 0, 1) := by decide +kernel
theorem dX0_drop_27 : decode cX0_drop 27 = .ok (.bastore, 1) := by decide +kernel
theorem dX0_drop_28 : decode cX0_drop 28 = .ok (.aload_n 0, 1) := by decide +kernel
theorem dX0_drop_29 : decode cX0_drop 29 = .ok (.getfield 13, 3) := by decide +kernel
theorem dX0_drop_32 : decode cX0_drop 32 = .ok (.iload_n 1, 1) := by decide +kernel
theorem dX0_drop_33 : decode cX0_drop 33 = .ok (.sipush 1000, 3) := by decide +kernel
theorem dX0_drop_36 : decode cX0_drop 36 = .ok (.idiv, 1) := by decide +kernel
theorem dX0_drop_37 : decode cX0_drop 37 = .ok (.dup2, 1) := by decide +kernel
theorem dX0_drop_38 : decode cX0_drop 38 = .ok (.iaload, 1) := by decide +kernel
theorem dX0_drop_39 : decode cX0_drop 39 = .ok (.iconst 1, 1) := by decide +kernel
theorem dX0_drop_40 : decode cX0_drop 40 = .ok (.isub, 1) := by decide +kernel
theorem dX0_drop_41 : decode cX0_drop 41 = .ok (.iastore, 1) := by decide +kernel
theorem dX0_drop_42 : decode cX0_drop 42 = .ok (.iconst 1, 1) := by decide +kernel
theorem dX0_drop_43 : decode cX0_drop 43 = .ok (.ireturn, 1) := by decide +kernel
theorem dX0_numbers_0 : decode cX0_numbers 0 = .ok (.iload_n 1, 1) := by decide +kernel
theorem dX0_numbers_1 : decode cX0_numbers 1 = .ok (.invokestatic 64, 3) := by decide +kernel
theorem dX0_numbers_4 : decode cX0_numbers 4 = .ok (.ifCond .eq 12, 3) := by decide +kernel
theorem dX0_numbers_7 : decode cX0_numbers 7 = .ok (.aload_n 0, 1) := by decide +kernel
theorem dX0_numbers_8 : decode cX0_numbers 8 = .ok (.getfield 13, 3) := by decide +kernel
theorem dX0_numbers_11 : decode cX0_numbers 11 = .ok (.iload_n 1, 1) := by decide +kernel
theorem dX0_numbers_12 : decode cX0_numbers 12 = .ok (.iaload, 1) := by decide +kernel
theorem dX0_numbers_13 : decode cX0_numbers 13 = .ok (.goto 4, 3) := by decide +kernel
theorem dX0_numbers_16 : decode cX0_numbers 16 = .ok (.iconst (-1), 1) := by decide +kernel
theorem dX0_numbers_17 : decode cX0_numbers 17 = .ok (.ireturn, 1) := by decide +kernel
theorem dX0_isThere_0 : decode cX0_isThere 0 = .ok (.iload_n 1, 1) := by decide +kernel
theorem dX0_isThere_1 : decode cX0_isThere 1 = .ok (.invokestatic 85, 3) := by decide +kernel
theorem dX0_isThere_4 : decode cX0_isThere 4 = .ok (.istore_n 2, 1) := by decide +kernel
theorem dX0_isThere_5 : decode cX0_isThere 5 = .ok (.iload_n 2, 1) := by decide +kernel
theorem dX0_isThere_6 : decode cX0_isThere 6 = .ok (.iconst (-1), 1) := by decide +kernel
theorem dX0_isThere_7 : decode cX0_isThere 7 = .ok (.if_icmp .eq 16, 3) := by decide +kernel
theorem dX0_isThere_10 : decode cX0_isThere 10 = .ok (.aload_n 0, 1) := by decide +kernel
theorem dX0_isThere_11 : decode cX0_isThere 11 = .ok (.getfield 16, 3) := by decide +kernel
theorem dX0_isThere_14 : decode cX0_isThere 14 = .ok (.iload_n 2, 1) := by decide +kernel
theorem dX0_isThere_15 : decode cX0_isThere 15 = .ok (.baload, 1) := by decide +kernel
theorem dX0_isThere_16 : decode cX0_isThere 16 = .ok (.ifCond .eq 7, 3) := by decide +kernel
theorem dX0_isThere_19 : decode cX0_isThere 19 = .ok (.iconst 1, 1) := by decide +kernel
theorem dX0_isThere_20 : decode cX0_isThere 20 = .ok (.goto 4, 3) := by decide +kernel
theorem dX0_isThere_23 : decode cX0_isThere 23 = .ok (.iconst 0, 1) := by decide +kernel
theorem dX0_isThere_24 : decode cX0_isThere 24 = .ok (.ireturn, 1) := by decide +kernel
theorem dX0_again_0 : decode cX0_again 0 = .ok (.aload_n 0, 1) := by decide +kernel
theorem dX0_again_1 : decode cX0_again 1 = .ok (.aload_n 0, 1) := by decide +kernel
theorem dX0_again_2 : decode cX0_again 2 = .ok (.iload_n 1, 1) := by decide +kernel
theorem dX0_again_3 : decode cX0_again 3 = .ok (.iload_n 2, 1) := by decide +kernel
theorem dX0_again_4 : decode cX0_again 4 = .ok (.invokevirtual 67, 3) := by decide +kernel
theorem dX0_again_7 : decode cX0_again 7 = .ok (.iload_n 1, 1) := by decide +kernel
theorem dX0_again_8 : decode cX0_again 8 = .ok (.lload_n 3, 1) := by decide +kernel
theorem dX0_again_9 : decode cX0_again 9 = .ok (.invokevirtual 73, 3) := by decide +kernel
theorem dX0_again_12 : decode cX0_again 12 = .ok (.lreturn, 1) := by decide +kernel
theorem dX0_log_0 : decode cX0_log 0 = .ok (.aload_n 0, 1) := by decide +kernel
theorem dX0_log_1 : decode cX0_log 1 = .ok (.iload_n 1, 1) := by decide +kernel
theorem dX0_log_2 : decode cX0_log 2 = .ok (.iload_n 2, 1) := by decide +kernel
theorem dX0_log_3 : decode cX0_log 3 = .ok (.invokevirtual 67, 3) := by decide +kernel
theorem dX0_log_6 : decode cX0_log 6 = .ok (.lstore 5, 2) := by decide +kernel
theorem dX0_log_8 : decode cX0_log 8 = .ok (.aload_n 0, 1) := by decide +kernel
theorem dX0_log_9 : decode cX0_log 9 = .ok (.lload 5, 2) := by decide +kernel
theorem dX0_log_11 : decode cX0_log 11 = .ok (.iload_n 1, 1) := by decide +kernel
theorem dX0_log_12 : decode cX0_log 12 = .ok (.iload_n 2, 1) := by decide +kernel
theorem dX0_log_13 : decode cX0_log 13 = .ok (.aload_n 0, 1) := by decide +kernel
theorem dX0_log_14 : decode cX0_log 14 = .ok (.lload 5, 2) := by decide +kernel
theorem dX0_log_16 : decode cX0_log 16 = .ok (.iload_n 1, 1) := by decide +kernel
theorem dX0_log_17 : decode cX0_log 17 = .ok (.lload_n 3, 1) := by decide +kernel
theorem dX0_log_18 : decode cX0_log 18 = .ok (.invokevirtual 73, 3) := by decide +kernel
theorem dX0_log_21 : decode cX0_log 21 = .ok (.invokevirtual 77, 3) := by decide +kernel
theorem dX0_log_24 : decode cX0_log 24 = .ok (.lreturn, 1) := by decide +kernel
theorem dX0_isCall_0 : decode cX0_isCall 0 = .ok (.iload_n 0, 1) := by decide +kernel
theorem dX0_isCall_1 : decode cX0_isCall 1 = .ok (.ifCond .lt 13, 3) := by decide +kernel
theorem dX0_isCall_4 : decode cX0_isCall 4 = .ok (.iload_n 0, 1) := by decide +kernel
theorem dX0_isCall_5 : decode cX0_isCall 5 = .ok (.bipush 20, 2) := by decide +kernel
theorem dX0_isCall_7 : decode cX0_isCall 7 = .ok (.if_icmp .ge 7, 3) := by decide +kernel
theorem dX0_isCall_10 : decode cX0_isCall 10 = .ok (.iconst 1, 1) := by decide +kernel
theorem dX0_isCall_11 : decode cX0_isCall 11 = .ok (.goto 4, 3) := by decide +kernel
theorem dX0_isCall_14 : decode cX0_isCall 14 = .ok (.iconst 0, 1) := by decide +kernel
theorem dX0_isCall_15 : decode cX0_isCall 15 = .ok (.ireturn, 1) := by decide +kernel
theorem dX0_isKind_0 : decode cX0_isKind 0 = .ok (.iload_n 0, 1) := by decide +kernel
theorem dX0_isKind_1 : decode cX0_isKind 1 = .ok (.ifCond .lt 13, 3) := by decide +kernel
theorem dX0_isKind_4 : decode cX0_isKind 4 = .ok (.iload_n 0, 1) := by decide +kernel
theorem dX0_isKind_5 : decode cX0_isKind 5 = .ok (.bipush 10, 2) := by decide +kernel
theorem dX0_isKind_7 : decode cX0_isKind 7 = .ok (.if_icmp .ge 7, 3) := by decide +kernel
theorem dX0_isKind_10 : decode cX0_isKind 10 = .ok (.iconst 1, 1) := by decide +kernel
theorem dX0_isKind_11 : decode cX0_isKind 11 = .ok (.goto 4, 3) := by decide +kernel
theorem dX0_isKind_14 : decode cX0_isKind 14 = .ok (.iconst 0, 1) := by decide +kernel
theorem dX0_isKind_15 : decode cX0_isKind 15 = .ok (.ireturn, 1) := by decide +kernel
theorem dX0_placeOf_0 : decode cX0_placeOf 0 = .ok (.iload_n 0, 1) := by decide +kernel
theorem dX0_placeOf_1 : decode cX0_placeOf 1 = .ok (.ifCond .ge 5, 3) := by decide +kernel
theorem dX0_placeOf_4 : decode cX0_placeOf 4 = .ok (.iconst (-1), 1) := by decide +kernel
theorem dX0_placeOf_5 : decode cX0_placeOf 5 = .ok (.ireturn, 1) := by decide +kernel
theorem dX0_placeOf_6 : decode cX0_placeOf 6 = .ok (.iload_n 0, 1) := by decide +kernel
theorem dX0_placeOf_7 : decode cX0_placeOf 7 = .ok (.sipush 1000, 3) := by decide +kernel
theorem dX0_placeOf_10 : decode cX0_placeOf 10 = .ok (.idiv, 1) := by decide +kernel
theorem dX0_placeOf_11 : decode cX0_placeOf 11 = .ok (.istore_n 1, 1) := by decide +kernel
theorem dX0_placeOf_12 : decode cX0_placeOf 12 = .ok (.iload_n 0, 1) := by decide +kernel
theorem dX0_placeOf_13 : decode cX0_placeOf 13 = .ok (.sipush 1000, 3) := by decide +kernel
theorem dX0_placeOf_16 : decode cX0_placeOf 16 = .ok (.irem, 1) := by decide +kernel
theorem dX0_placeOf_17 : decode cX0_placeOf 17 = .ok (.istore_n 2, 1) := by decide +kernel
theorem dX0_placeOf_18 : decode cX0_placeOf 18 = .ok (.iload_n 1, 1) := by decide +kernel
theorem dX0_placeOf_19 : decode cX0_placeOf 19 = .ok (.invokestatic 64, 3) := by decide +kernel
theorem dX0_placeOf_22 : decode cX0_placeOf 22 = .ok (.ifCond .eq 14, 3) := by decide +kernel
theorem dX0_placeOf_25 : decode cX0_placeOf 25 = .ok (.iload_n 2, 1) := by decide +kernel
theorem dX0_placeOf_26 : decode cX0_placeOf 26 = .ok (.iconst 1, 1) := by decide +kernel
theorem dX0_placeOf_27 : decode cX0_placeOf 27 = .ok (.if_icmp .lt 9, 3) := by decide +kernel
theorem dX0_placeOf_30 : decode cX0_placeOf 30 = .ok (.iload_n 2, 1) := by decide +kernel
theorem dX0_placeOf_31 : decode cX0_placeOf 31 = .ok (.bipush 99, 2) := by decide +kernel
theorem dX0_placeOf_33 : decode cX0_placeOf 33 = .ok (.if_icmp .le 5, 3) := by decide +kernel
theorem dX0_placeOf_36 : decode cX0_placeOf 36 = .ok (.iconst (-1), 1) := by decide +kernel
theorem dX0_placeOf_37 : decode cX0_placeOf 37 = .ok (.ireturn, 1) := by decide +kernel
theorem dX0_placeOf_38 : decode cX0_placeOf 38 = .ok (.iload_n 1, 1) := by decide +kernel
theorem dX0_placeOf_39 : decode cX0_placeOf 39 = .ok (.bipush 100, 2) := by decide +kernel
theorem dX0_placeOf_41 : decode cX0_placeOf 41 = .ok (.imul, 1) := by decide +kernel
theorem dX0_placeOf_42 : decode cX0_placeOf 42 = .ok (.iload_n 2, 1) := by decide +kernel
theorem dX0_placeOf_43 : decode cX0_placeOf 43 = .ok (.iadd, 1) := by decide +kernel
theorem dX0_placeOf_44 : decode cX0_placeOf 44 = .ok (.ireturn, 1) := by decide +kernel
theorem dX0_refusalOf_0 : decode cX0_refusalOf 0 = .ok (.iload_n 1, 1) := by decide +kernel
theorem dX0_refusalOf_1 : decode cX0_refusalOf 1 = .ok (.invokestatic 60, 3) := by decide +kernel
theorem dX0_refusalOf_4 : decode cX0_refusalOf 4 = .ok (.ifCond .ne 7, 3) := by decide +kernel
theorem dX0_refusalOf_7 : decode cX0_refusalOf 7 = .ok (.ldc2_w 71, 3) := by decide +kernel
theorem dX0_refusalOf_10 : decode cX0_refusalOf 10 = .ok (.lreturn, 1) := by decide +kernel
theorem dX0_refusalOf_11 : decode cX0_refusalOf 11 = .ok (.aload_n 0, 1) := by decide +kernel
theorem dX0_refusalOf_12 : decode cX0_refusalOf 12 = .ok (.iload_n 2, 1) := by decide +kernel
theorem dX0_refusalOf_13 : decode cX0_refusalOf 13 = .ok (.invokevirtual 89, 3) := by decide +kernel
theorem dX0_refusalOf_16 : decode cX0_refusalOf 16 = .ok (.ifCond .eq 15, 3) := by decide +kernel
theorem dX0_refusalOf_19 : decode cX0_refusalOf 19 = .ok (.iload_n 2, 1) := by decide +kernel
theorem dX0_refusalOf_20 : decode cX0_refusalOf 20 = .ok (.sipush 1000, 3) := by decide +kernel
theorem dX0_refusalOf_23 : decode cX0_refusalOf 23 = .ok (.idiv, 1) := by decide +kernel
theorem dX0_refusalOf_24 : decode cX0_refusalOf 24 = .ok (.iload_n 1, 1) := by decide +kernel
theorem dX0_refusalOf_25 : decode cX0_refusalOf 25 = .ok (.bipush 10, 2) := by decide +kernel
theorem dX0_refusalOf_27 : decode cX0_refusalOf 27 = .ok (.irem, 1) := by decide +kernel
theorem dX0_refusalOf_28 : decode cX0_refusalOf 28 = .ok (.if_icmp .eq 7, 3) := by decide +kernel
theorem dX0_refusalOf_31 : decode cX0_refusalOf 31 = .ok (.ldc2_w 92, 3) := by decide +kernel
theorem dX0_refusalOf_34 : decode cX0_refusalOf 34 = .ok (.lreturn, 1) := by decide +kernel
theorem dX0_refusalOf_35 : decode cX0_refusalOf 35 = .ok (.iload_n 1, 1) := by decide +kernel
theorem dX0_refusalOf_36 : decode cX0_refusalOf 36 = .ok (.bipush 10, 2) := by decide +kernel
theorem dX0_refusalOf_38 : decode cX0_refusalOf 38 = .ok (.if_icmp .lt 14, 3) := by decide +kernel
theorem dX0_refusalOf_41 : decode cX0_refusalOf 41 = .ok (.aload_n 0, 1) := by decide +kernel
theorem dX0_refusalOf_42 : decode cX0_refusalOf 42 = .ok (.getfield 27, 3) := by decide +kernel
theorem dX0_refusalOf_45 : decode cX0_refusalOf 45 = .ok (.ifCond .ne 7, 3) := by decide +kernel
theorem dX0_refusalOf_48 : decode cX0_refusalOf 48 = .ok (.ldc2_w 94, 3) := by decide +kernel
theorem dX0_refusalOf_51 : decode cX0_refusalOf 51 = .ok (.lreturn, 1) := by decide +kernel
theorem dX0_refusalOf_52 : decode cX0_refusalOf 52 = .ok (.lconst 0, 1) := by decide +kernel
theorem dX0_refusalOf_53 : decode cX0_refusalOf 53 = .ok (.lreturn, 1) := by decide +kernel
theorem dX0_replyTo_0 : decode cX0_replyTo 0 = .ok (.lload_n 1, 1) := by decide +kernel
theorem dX0_replyTo_1 : decode cX0_replyTo 1 = .ok (.lconst 0, 1) := by decide +kernel
theorem dX0_replyTo_2 : decode cX0_replyTo 2 = .ok (.lcmp, 1) := by decide +kernel
theorem dX0_replyTo_3 : decode cX0_replyTo 3 = .ok (.ifCond .eq 5, 3) := by decide +kernel
theorem dX0_replyTo_6 : decode cX0_replyTo 6 = .ok (.lload_n 1, 1) := by decide +kernel
theorem dX0_replyTo_7 : decode cX0_replyTo 7 = .ok (.lreturn, 1) := by decide +kernel
theorem dX0_replyTo_8 : decode cX0_replyTo 8 = .ok (.aload_n 0, 1) := by decide +kernel
theorem dX0_replyTo_9 : decode cX0_replyTo 9 = .ok (.getfield 24, 3) := by decide +kernel
theorem dX0_replyTo_12 : decode cX0_replyTo 12 = .ok (.iload_n 3, 1) := by decide +kernel
theorem dX0_replyTo_13 : decode cX0_replyTo 13 = .ok (.iaload, 1) := by decide +kernel
theorem dX0_replyTo_14 : decode cX0_replyTo 14 = .ok (.ifCond .eq 7, 3) := by decide +kernel
theorem dX0_replyTo_17 : decode cX0_replyTo 17 = .ok (.ldc2_w 96, 3) := by decide +kernel
theorem dX0_replyTo_20 : decode cX0_replyTo 20 = .ok (.lreturn, 1) := by decide +kernel
theorem dX0_replyTo_21 : decode cX0_replyTo 21 = .ok (.aload_n 0, 1) := by decide +kernel
theorem dX0_replyTo_22 : decode cX0_replyTo 22 = .ok (.getfield 20, 3) := by decide +kernel
theorem dX0_replyTo_25 : decode cX0_replyTo 25 = .ok (.iload_n 3, 1) := by decide +kernel
theorem dX0_replyTo_26 : decode cX0_replyTo 26 = .ok (.laload, 1) := by decide +kernel
theorem dX0_replyTo_27 : decode cX0_replyTo 27 = .ok (.lload 4, 2) := by decide +kernel
theorem dX0_replyTo_29 : decode cX0_replyTo 29 = .ok (.ladd, 1) := by decide +kernel
theorem dX0_replyTo_30 : decode cX0_replyTo 30 = .ok (.aload_n 0, 1) := by decide +kernel
theorem dX0_replyTo_31 : decode cX0_replyTo 31 = .ok (.getfield 31, 3) := by decide +kernel
theorem dX0_replyTo_34 : decode cX0_replyTo 34 = .ok (.ladd, 1) := by decide +kernel
theorem dX0_replyTo_35 : decode cX0_replyTo 35 = .ok (.lreturn, 1) := by decide +kernel
theorem dX0_logBehind_0 : decode cX0_logBehind 0 = .ok (.lload_n 1, 1) := by decide +kernel
theorem dX0_logBehind_1 : decode cX0_logBehind 1 = .ok (.ldc2_w 71, 3) := by decide +kernel
theorem dX0_logBehind_4 : decode cX0_logBehind 4 = .ok (.lcmp, 1) := by decide +kernel
theorem dX0_logBehind_5 : decode cX0_logBehind 5 = .ok (.ifCond .ne 8, 3) := by decide +kernel
theorem dX0_logBehind_8 : decode cX0_logBehind 8 = .ok (.aload_n 0, 1) := by decide +kernel
theorem dX0_logBehind_9 : decode cX0_logBehind 9 = .ok (.getfield 55, 3) := by decide +kernel
theorem dX0_logBehind_12 : decode cX0_logBehind 12 = .ok (.lreturn, 1) := by decide +kernel
theorem dX0_logBehind_13 : decode cX0_logBehind 13 = .ok (.ldc2_w 98, 3) := by decide +kernel
theorem dX0_logBehind_16 : decode cX0_logBehind 16 = .ok (.ldc2_w 100, 3) := by decide +kernel
theorem dX0_logBehind_19 : decode cX0_logBehind 19 = .ok (.aload_n 0, 1) := by decide +kernel
theorem dX0_logBehind_20 : decode cX0_logBehind 20 = .ok (.getfield 55, 3) := by decide +kernel
theorem dX0_logBehind_23 : decode cX0_logBehind 23 = .ok (.lmul, 1) := by decide +kernel
theorem dX0_logBehind_24 : decode cX0_logBehind 24 = .ok (.ldc2_w 102, 3) := by decide +kernel
theorem dX0_logBehind_27 : decode cX0_logBehind 27 = .ok (.iload 4, 2) := by decide +kernel
theorem dX0_logBehind_29 : decode cX0_logBehind 29 = .ok (.i2l, 1) := by decide +kernel
theorem dX0_logBehind_30 : decode cX0_logBehind 30 = .ok (.lmul, 1) := by decide +kernel
theorem dX0_logBehind_31 : decode cX0_logBehind 31 = .ok (.ladd, 1) := by decide +kernel
theorem dX0_logBehind_32 : decode cX0_logBehind 32 = .ok (.iload_n 3, 1) := by decide +kernel
theorem dX0_logBehind_33 : decode cX0_logBehind 33 = .ok (.i2l, 1) := by decide +kernel
theorem dX0_logBehind_34 : decode cX0_logBehind 34 = .ok (.ladd, 1) := by decide +kernel
theorem dX0_logBehind_35 : decode cX0_logBehind 35 = .ok (.lmul, 1) := by decide +kernel
theorem dX0_logBehind_36 : decode cX0_logBehind 36 = .ok (.lstore 7, 2) := by decide +kernel
theorem dX0_logBehind_38 : decode cX0_logBehind 38 = .ok (.lload_n 1, 1) := by decide +kernel
theorem dX0_logBehind_39 : decode cX0_logBehind 39 = .ok (.lconst 0, 1) := by decide +kernel
theorem dX0_logBehind_40 : decode cX0_logBehind 40 = .ok (.lcmp, 1) := by decide +kernel
theorem dX0_logBehind_41 : decode cX0_logBehind 41 = .ok (.ifCond .eq 8, 3) := by decide +kernel
theorem dX0_logBehind_44 : decode cX0_logBehind 44 = .ok (.lload 7, 2) := by decide +kernel
theorem dX0_logBehind_46 : decode cX0_logBehind 46 = .ok (.lconst 1, 1) := by decide +kernel
theorem dX0_logBehind_47 : decode cX0_logBehind 47 = .ok (.lsub, 1) := by decide +kernel
theorem dX0_logBehind_48 : decode cX0_logBehind 48 = .ok (.lreturn, 1) := by decide +kernel
theorem dX0_logBehind_49 : decode cX0_logBehind 49 = .ok (.aload_n 0, 1) := by decide +kernel
theorem dX0_logBehind_50 : decode cX0_logBehind 50 = .ok (.getfield 24, 3) := by decide +kernel
theorem dX0_logBehind_53 : decode cX0_logBehind 53 = .ok (.iload_n 3, 1) := by decide +kernel
theorem dX0_logBehind_54 : decode cX0_logBehind 54 = .ok (.iaload, 1) := by decide +kernel
theorem dX0_logBehind_55 : decode cX0_logBehind 55 = .ok (.ifCond .eq 16, 3) := by decide +kernel
theorem dX0_logBehind_58 : decode cX0_logBehind 58 = .ok (.lload 7, 2) := by decide +kernel
theorem dX0_logBehind_60 : decode cX0_logBehind 60 = .ok (.lconst 1, 1) := by decide +kernel
theorem dX0_logBehind_61 : decode cX0_logBehind 61 = .ok (.lsub, 1) := by decide +kernel
theorem dX0_logBehind_62 : decode cX0_logBehind 62 = .ok (.aload_n 0, 1) := by decide +kernel
theorem dX0_logBehind_63 : decode cX0_logBehind 63 = .ok (.getfield 24, 3) := by decide +kernel
theorem dX0_logBehind_66 : decode cX0_logBehind 66 = .ok (.iload_n 3, 1) := by decide +kernel
theorem dX0_logBehind_67 : decode cX0_logBehind 67 = .ok (.iaload, 1) := by decide +kernel
theorem dX0_logBehind_68 : decode cX0_logBehind 68 = .ok (.i2l, 1) := by decide +kernel
theorem dX0_logBehind_69 : decode cX0_logBehind 69 = .ok (.lsub, 1) := by decide +kernel
theorem dX0_logBehind_70 : decode cX0_logBehind 70 = .ok (.lreturn, 1) := by decide +kernel
theorem dX0_logBehind_71 : decode cX0_logBehind 71 = .ok (.lload 7, 2) := by decide +kernel
theorem dX0_logBehind_73 : decode cX0_logBehind 73 = .ok (.lload 5, 2) := by decide +kernel
theorem dX0_logBehind_75 : decode cX0_logBehind 75 = .ok (.ladd, 1) := by decide +kernel
theorem dX0_logBehind_76 : decode cX0_logBehind 76 = .ok (.lreturn, 1) := by decide +kernel
theorem dX0_settle_0 : decode cX0_settle 0 = .ok (.lload_n 1, 1) := by decide +kernel
theorem dX0_settle_1 : decode cX0_settle 1 = .ok (.lconst 0, 1) := by decide +kernel
theorem dX0_settle_2 : decode cX0_settle 2 = .ok (.lcmp, 1) := by decide +kernel
theorem dX0_settle_3 : decode cX0_settle 3 = .ok (.ifCond .eq 16, 3) := by decide +kernel
theorem dX0_settle_6 : decode cX0_settle 6 = .ok (.aload_n 0, 1) := by decide +kernel
theorem dX0_settle_7 : decode cX0_settle 7 = .ok (.dup, 1) := by decide +kernel
theorem dX0_settle_8 : decode cX0_settle 8 = .ok (.getfield 38, 3) := by decide +kernel
theorem dX0_settle_11 : decode cX0_settle 11 = .ok (.lconst 1, 1) := by decide +kernel
theorem dX0_settle_12 : decode cX0_settle 12 = .ok (.ladd, 1) := by decide +kernel
theorem dX0_settle_13 : decode cX0_settle 13 = .ok (.putfield 38, 3) := by decide +kernel
theorem dX0_settle_16 : decode cX0_settle 16 = .ok (.goto 66, 3) := by decide +kernel
theorem dX0_settle_19 : decode cX0_settle 19 = .ok (.aload_n 0, 1) := by decide +kernel
theorem dX0_settle_20 : decode cX0_settle 20 = .ok (.getfield 24, 3) := by decide +kernel
theorem dX0_settle_23 : decode cX0_settle 23 = .ok (.iload_n 3, 1) := by decide +kernel
theorem dX0_settle_24 : decode cX0_settle 24 = .ok (.iaload, 1) := by decide +kernel
theorem dX0_settle_25 : decode cX0_settle 25 = .ok (.ifCond .eq 37, 3) := by decide +kernel
theorem dX0_settle_28 : decode cX0_settle 28 = .ok (.aload_n 0, 1) := by decide +kernel
theorem dX0_settle_29 : decode cX0_settle 29 = .ok (.dup, 1) := by decide +kernel
theorem dX0_settle_30 : decode cX0_settle 30 = .ok (.getfield 41, 3) := by decide +kernel
theorem dX0_settle_33 : decode cX0_settle 33 = .ok (.lconst 1, 1) := by decide +kernel
theorem dX0_settle_34 : decode cX0_settle 34 = .ok (.ladd, 1) := by decide +kernel
theorem dX0_settle_35 : decode cX0_settle 35 = .ok (.putfield 41, 3) := by decide +kernel
theorem dX0_settle_38 : decode cX0_settle 38 = .ok (.aload_n 0, 1) := by decide +kernel
theorem dX0_settle_39 : decode cX0_settle 39 = .ok (.aload_n 0, 1) := by decide +kernel
theorem dX0_settle_40 : decode cX0_settle 40 = .ok (.getfield 24, 3) := by decide +kernel
theorem dX0_settle_43 : decode cX0_settle 43 = .ok (.iload_n 3, 1) := by decide +kernel
theorem dX0_settle_44 : decode cX0_settle 44 = .ok (.iaload, 1) := by decide +kernel
theorem dX0_settle_45 : decode cX0_settle 45 = .ok (.putfield 44, 3) := by decide +kernel
theorem dX0_settle_48 : decode cX0_settle 48 = .ok (.aload_n 0, 1) := by decide +kernel
theorem dX0_settle_49 : decode cX0_settle 49 = .ok (.iload 4, 2) := by decide +kernel
theorem dX0_settle_51 : decode cX0_settle 51 = .ok (.putfield 47, 3) := by decide +kernel
theorem dX0_settle_54 : decode cX0_settle 54 = .ok (.aload_n 0, 1) := by decide +kernel
theorem dX0_settle_55 : decode cX0_settle 55 = .ok (.iload_n 3, 1) := by decide +kernel
theorem dX0_settle_56 : decode cX0_settle 56 = .ok (.putfield 50, 3) := by decide +kernel
theorem dX0_settle_59 : decode cX0_settle 59 = .ok (.goto 23, 3) := by decide +kernel
theorem dX0_settle_62 : decode cX0_settle 62 = .ok (.aload_n 0, 1) := by decide +kernel
theorem dX0_settle_63 : decode cX0_settle 63 = .ok (.dup, 1) := by decide +kernel
theorem dX0_settle_64 : decode cX0_settle 64 = .ok (.getfield 35, 3) := by decide +kernel
theorem dX0_settle_67 : decode cX0_settle 67 = .ok (.lconst 1, 1) := by decide +kernel
theorem dX0_settle_68 : decode cX0_settle 68 = .ok (.ladd, 1) := by decide +kernel
theorem dX0_settle_69 : decode cX0_settle 69 = .ok (.putfield 35, 3) := by decide +kernel
theorem dX0_settle_72 : decode cX0_settle 72 = .ok (.aload_n 0, 1) := by decide +kernel
theorem dX0_settle_73 : decode cX0_settle 73 = .ok (.iconst 0, 1) := by decide +kernel
theorem dX0_settle_74 : decode cX0_settle 74 = .ok (.putfield 27, 3) := by decide +kernel
theorem dX0_settle_77 : decode cX0_settle 77 = .ok (.aload_n 0, 1) := by decide +kernel
theorem dX0_settle_78 : decode cX0_settle 78 = .ok (.lconst 0, 1) := by decide +kernel
theorem dX0_settle_79 : decode cX0_settle 79 = .ok (.putfield 31, 3) := by decide +kernel
theorem dX0_settle_82 : decode cX0_settle 82 = .ok (.return_, 1) := by decide +kernel
end
section
theorem dX1_init_0 : decode cX1_init 0 = .ok (.aload_n 0, 1) := by decide +kernel
theorem dX1_init_1 : decode cX1_init 1 = .ok (.invokespecial 1, 3) := by decide +kernel
theorem dX1_init_4 : decode cX1_init 4 = .ok (.aload_n 0, 1) := by decide +kernel
theorem dX1_init_5 : decode cX1_init 5 = .ok (.bipush 40, 2) := by decide +kernel
theorem dX1_init_7 : decode cX1_init 7 = .ok (.newarray .long, 2) := by decide +kernel
theorem dX1_init_9 : decode cX1_init 9 = .ok (.putfield 7, 3) := by decide +kernel
theorem dX1_init_12 : decode cX1_init 12 = .ok (.aload_n 0, 1) := by decide +kernel
theorem dX1_init_13 : decode cX1_init 13 = .ok (.bipush 20, 2) := by decide +kernel
theorem dX1_init_15 : decode cX1_init 15 = .ok (.newarray .long, 2) := by decide +kernel
theorem dX1_init_17 : decode cX1_init 17 = .ok (.putfield 13, 3) := by decide +kernel
theorem dX1_init_20 : decode cX1_init 20 = .ok (.aload_n 0, 1) := by decide +kernel
theorem dX1_init_21 : decode cX1_init 21 = .ok (.bipush 20, 2) := by decide +kernel
theorem dX1_init_23 : decode cX1_init 23 = .ok (.newarray .int, 2) := by decide +kernel
theorem dX1_init_25 : decode cX1_init 25 = .ok (.putfield 16, 3) := by decide +kernel
theorem dX1_init_28 : decode cX1_init 28 = .ok (.aload_n 0, 1) := by decide +kernel
theorem dX1_init_29 : decode cX1_init 29 = .ok (.bipush 10, 2) := by decide +kernel
theorem dX1_init_31 : decode cX1_init 31 = .ok (.newarray .int, 2) := by decide +kernel
theorem dX1_init_33 : decode cX1_init 33 = .ok (.putfield 20, 3) := by decide +kernel
theorem dX1_init_36 : decode cX1_init 36 = .ok (.aload_n 0, 1) := by decide +kernel
theorem dX1_init_37 : decode cX1_init 37 = .ok (.sipush 1000, 3) := by decide +kernel
theorem dX1_init_40 : decode cX1_init 40 = .ok (.newarray .boolean, 2) := by decide +kernel
theorem dX1_init_42 : decode cX1_init 42 = .ok (.putfield 23, 3) := by decide +kernel
theorem dX1_init_45 : decode cX1_init 45 = .ok (.aload_n 0, 1) := by decide +kernel
theorem dX1_init_46 : decode cX1_init 46 = .ok (.ldc2_w 27, 3) := by decide +kernel
theorem dX1_init_49 : decode cX1_init 49 = .ok (.putfield 29, 3) := by decide +kernel
theorem dX1_init_52 : decode cX1_init 52 = .ok (.return_, 1) := by decide +kernel
theorem dX1_collect_0 : decode cX1_collect 0 = .ok (.aload_n 0, 1) := by decide +kernel
theorem dX1_collect_1 : decode cX1_collect 1 = .ok (.getfield 33, 3) := by decide +kernel
theorem dX1_collect_4 : decode cX1_collect 4 = .ok (.bipush 40, 2) := by decide +kernel
theorem dX1_collect_6 : decode cX1_collect 6 = .ok (.if_icmp .ne 6, 3) := by decide +kernel
theorem dX1_collect_9 : decode cX1_collect 9 = .ok (.bipush (-14), 2) := by decide +kernel
theorem dX1_collect_11 : decode cX1_collect 11 = .ok (.ireturn, 1) := by decide +kernel
theorem dX1_collect_12 : decode cX1_collect 12 = .ok (.aload_n 0, 1) := by decide +kernel
theorem dX1_collect_13 : decode cX1_collect 13 = .ok (.getfield 7, 3) := by decide +kernel
theorem dX1_collect_16 : decode cX1_collect 16 = .ok (.aload_n 0, 1) := by decide +kernel
theorem dX1_collect_17 : decode cX1_collect 17 = .ok (.getfield 33, 3) := by decide +kernel
theorem dX1_collect_20 : decode cX1_collect 20 = .ok (.lload_n 1, 1) := by decide +kernel
theorem dX1_collect_21 : decode cX1_collect 21 = .ok (.lastore, 1) := by decide +kernel
theorem dX1_collect_22 : decode cX1_collect 22 = .ok (.aload_n 0, 1) := by decide +kernel
theorem dX1_collect_23 : decode cX1_collect 23 = .ok (.dup, 1) := by decide +kernel
theorem dX1_collect_24 : decode cX1_collect 24 = .ok (.getfield 33, 3) := by decide +kernel
theorem dX1_collect_27 : decode cX1_collect 27 = .ok (.iconst 1, 1) := by decide +kernel
theorem dX1_collect_28 : decode cX1_collect 28 = .ok (.iadd, 1) := by decide +kernel
theorem dX1_collect_29 : decode cX1_collect 29 = .ok (.putfield 33, 3) := by decide +kernel
theorem dX1_collect_32 : decode cX1_collect 32 = .ok (.aload_n 0, 1) := by decide +kernel
theorem dX1_collect_33 : decode cX1_collect 33 = .ok (.getfield 33, 3) := by decide +kernel
theorem dX1_collect_36 : decode cX1_collect 36 = .ok (.ireturn, 1) := by decide +kernel
theorem dX1_answer_0 : decode cX1_answer 0 = .ok (.iload_n 1, 1) := by decide +kernel
theorem dX1_answer_1 : decode cX1_answer 1 = .ok (.ifCond .lt 9, 3) := by decide +kernel
theorem dX1_answer_4 : decode cX1_answer 4 = .ok (.iload_n 1, 1) := by decide +kernel
theorem dX1_answer_5 : decode cX1_answer 5 = .ok (.bipush 19, 2) := by decide +kernel
theorem dX1_answer_7 : decode cX1_answer 7 = .ok (.if_icmp .le 5, 3) := by decide +kernel
theorem dX1_answer_10 : decode cX1_answer 10 = .ok (.iconst (-1), 1) := by decide +kernel
theorem dX1_answer_11 : decode cX1_answer 11 = .ok (.ireturn, 1) := by decide +kernel
theorem dX1_answer_12 : decode cX1_answer 12 = .ok (.aload_n 0, 1) := by decide +kernel
theorem dX1_answer_13 : decode cX1_answer 13 = .ok (.getfield 13, 3) := by decide +kernel
theorem dX1_answer_16 : decode cX1_answer 16 = .ok (.iload_n 1, 1) := by decide +kernel
theorem dX1_answer_17 : decode cX1_answer 17 = .ok (.lload_n 2, 1) := by decide +kernel
theorem dX1_answer_18 : decode cX1_answer 18 = .ok (.lastore, 1) := by decide +kernel
theorem dX1_answer_19 : decode cX1_answer 19 = .ok (.aload_n 0, 1) := by decide +kernel
theorem dX1_answer_20 : decode cX1_answer 20 = .ok (.getfield 16, 3) := by decide +kernel
theorem dX1_answer_23 : decode cX1_answer 23 = .ok (.iload_n 1, 1) := by decide +kernel
theorem dX1_answer_24 : decode cX1_answer 24 = .ok (.iconst 0, 1) := by decide +kernel
theorem dX1_answer_25 : decode cX1_answer 25 = .ok (.iastore, 1) := by decide +kernel
theorem dX1_answer_26 : decode cX1_answer 26 = .ok (.iconst 1, 1) := by decide +kernel
theorem dX1_answer_27 : decode cX1_answer 27 = .ok (.ireturn, 1) := by decide +kernel
theorem dX1_fails_0 : decode cX1_fails 0 = .ok (.iload_n 1, 1) := by decide +kernel
theorem dX1_fails_1 : decode cX1_fails 1 = .ok (.ifCond .lt 18, 3) := by decide +kernel
theorem dX1_fails_4 : decode cX1_fails 4 = .ok (.iload_n 1, 1) := by decide +kernel
theorem dX1_fails_5 : decode cX1_fails 5 = .ok (.bipush 19, 2) := by decide +kernel
theorem dX1_fails_7 : decode cX1_fails 7 = .ok (.if_icmp .gt 12, 3) := by decide +kernel
theorem dX1_fails_10 : decode cX1_fails 10 = .ok (.iload_n 2, 1) := by decide +kernel
theorem dX1_fails_11 : decode cX1_fails 11 = .ok (.ifCond .lt 8, 3) := by decide +kernel
theorem dX1_fails_14 : decode cX1_fails 14 = .ok (.iload_n 2, 1) := by decide +kernel
theorem dX1_fails_15 : decode cX1_fails 15 = .ok (.iconst 3, 1) := by decide +kernel
theorem dX1_fails_16 : decode cX1_fails 16 = .ok (.if_icmp .le 5, 3) := by decide +kernel
theorem dX1_fails_19 : decode cX1_fails 19 = .ok (.iconst (-1), 1) := by decide +kernel
theorem dX1_fails_20 : decode cX1_fails 20 = .ok (.ireturn, 1) := by decide +kernel
theorem dX1_fails_21 : decode cX1_fails 21 = .ok (.aload_n 0, 1) := by decide +kernel
theorem dX1_fails_22 : decode cX1_fails 22 = .ok (.getfield 16, 3) := by decide +kernel
theorem dX1_fails_25 : decode cX1_fails 25 = .ok (.iload_n 1, 1) := by decide +kernel
theorem dX1_fails_26 : decode cX1_fails 26 = .ok (.iload_n 2, 1) := by decide +kernel
theorem dX1_fails_27 : decode cX1_fails 27 = .ok (.iastore, 1) := by decide +kernel
theorem dX1_fails_28 : decode cX1_fails 28 = .ok (.iconst 1, 1) := by decide +kernel
theorem dX1_fails_29 : decode cX1_fails 29 = .ok (.ireturn, 1) := by decide +kernel
theorem dX1_make_0 : decode cX1_make 0 = .ok (.iload_n 1, 1) := by decide +kernel
theorem dX1_make_1 : decode cX1_make 1 = .ok (.ifCond .lt 9, 3) := by decide +kernel
theorem dX1_make_4 : decode cX1_make 4 = .ok (.iload_n 1, 1) := by decide +kernel
theorem dX1_make_5 : decode cX1_make 5 = .ok (.bipush 9, 2) := by decide +kernel
theorem dX1_make_7 : decode cX1_make 7 = .ok (.if_icmp .le 5, 3) := by decide +kernel
theorem dX1_make_10 : decode cX1_make 10 = .ok (.iconst (-1), 1) := by decide +kernel
theorem dX1_make_11 : decode cX1_make 11 = .ok (.ireturn, 1) := by decide +kernel
theorem dX1_make_12 : decode cX1_make 12 = .ok (.aload_n 0, 1) := by decide +kernel
theorem dX1_make_13 : decode cX1_make 13 = .ok (.getfield 20, 3) := by decide +kernel
theorem dX1_make_16 : decode cX1_make 16 = .ok (.iload_n 1, 1) := by decide +kernel
theorem dX1_make_17 : decode cX1_make 17 = .ok (.iaload, 1) := by decide +kernel
theorem dX1_make_18 : decode cX1_make 18 = .ok (.bipush 99, 2) := by decide +kernel
theorem dX1_make_20 : decode cX1_make 20 = .ok (.if_icmp .ne 6, 3) := by decide +kernel
theorem dX1_make_23 : decode cX1_make 23 = .ok (.bipush (-14), 2) := by decide +kernel
theorem dX1_make_25 : decode cX1_make 25 = .ok (.ireturn, 1) := by decide +kernel
theorem dX1_make_26 : decode cX1_make 26 = .ok (.aload_n 0, 1) := by decide +kernel
theorem dX1_make_27 : decode cX1_make 27 = .ok (.getfield 20, 3) := by decide +kernel
theorem dX1_make_30 : decode cX1_make 30 = .ok (.iload_n 1, 1) := by decide +kernel
theorem dX1_make_31 : decode cX1_make 31 = .ok (.dup2, 1) := by decide +kernel
theorem dX1_make_32 : decode cX1_make 32 = .ok (.iaload, 1) := by decide +kernel
theorem dX1_make_33 : decode cX1_make 33 = .ok (.iconst 1, 1) := by decide +kernel
theorem dX1_make_34 : decode cX1_make 34 = .ok (.iadd, 1) := by decide +kernel
theorem dX1_make_35 : decode cX1_make 35 = .ok (.iastore, 1) := by decide +kernel
theorem dX1_make_36 : decode cX1_make 36 = .ok (.aload_n 0, 1) := by decide +kernel
theorem dX1_make_37 : decode cX1_make 37 = .ok (.getfield 23, 3) := by decide +kernel
theorem dX1_make_40 : decode cX1_make 40 = .ok (.bipush 100, 2) := by decide +kernel
theorem dX1_make_42 : decode cX1_make 42 = .ok (.iload_n 1, 1) := by decide +kernel
theorem dX1_make_43 : decode cX1_make 43 = .ok (.imul, 1) := by decide +kernel
theorem dX1_make_44 : decode cX1_make 44 = .ok (.aload_n 0, 1) := by decide +kernel
theorem dX1_make_45 : decode cX1_make 45 = .ok (.getfield 20, 3) := by decide +kernel
theorem dX1_make_48 : decode cX1_make 48 = .ok (.iload_n 1, 1) := by decide +kernel
theorem dX1_make_49 : decode cX1_make 49 = .ok (.iaload, 1) := by decide +kernel
theorem dX1_make_50 : decode cX1_make 50 = .ok (.iadd, 1) := by decide +kernel
theorem dX1_make_51 : decode cX1_make 51 = .ok (.iconst 1, 1) := by decide +kernel
theorem dX1_make_52 : decode cX1_make 52 = .ok (.bastore, 1) := by decide +kernel
theorem dX1_make_53 : decode cX1_make 53 = .ok (.sipush 1000, 3) := by decide +kernel
theorem dX1_make_56 : decode cX1_make 56 = .ok (.iload_n 1, 1) := by decide +kernel
theorem dX1_make_57 : decode cX1_make 57 = .ok (.imul, 1) := by decide +kernel
theorem dX1_make_58 : decode cX1_make 58 = .ok (.aload_n 0, 1) := by decide +kernel
theorem dX1_make_59 : decode cX1_make 59 = .ok (.getfield 20, 3) := by decide +kernel
theorem dX1_make_62 : decode cX1_make 62 = .ok (.iload_n 1, 1) := by decide +kernel
theorem dX1_make_63 : decode cX1_make 63 = .ok (.iaload, 1) := by decide +kernel
theorem dX1_make_64 : decode cX1_make 64 = .ok (.iadd, 1) := by decide +kernel
theorem dX1_make_65 : decode cX1_make 65 = .ok (.ireturn, 1) := by decide +kernel
theorem dX1_isThere_0 : decode cX1_isThere 0 = .ok (.iload_n 1, 1) := by decide +kernel
theorem dX1_isThere_1 : decode cX1_isThere 1 = .ok (.ifCond .le 46, 3) := by decide +kernel
theorem dX1_isThere_4 : decode cX1_isThere 4 = .ok (.iload_n 1, 1) := by decide +kernel
theorem dX1_isThere_5 : decode cX1_isThere 5 = .ok (.sipush 10000, 3) := by decide +kernel
theorem dX1_isThere_8 : decode cX1_isThere 8 = .ok (.if_icmp .ge 39, 3) := by decide +kernel
theorem dX1_isThere_11 : decode cX1_isThere 11 = .ok (.iload_n 1, 1) := by decide +kernel
theorem dX1_isThere_12 : decode cX1_isThere 12 = .ok (.sipush 1000, 3) := by decide +kernel
theorem dX1_isThere_15 : decode cX1_isThere 15 = .ok (.irem, 1) := by decide +kernel
theorem dX1_isThere_16 : decode cX1_isThere 16 = .ok (.bipush 100, 2) := by decide +kernel
theorem dX1_isThere_18 : decode cX1_isThere 18 = .ok (.if_icmp .ge 29, 3) := by decide +kernel
theorem dX1_isThere_21 : decode cX1_isThere 21 = .ok (.aload_n 0, 1) := by decide +kernel
theorem dX1_isThere_22 : decode cX1_isThere 22 = .ok (.getfield 23, 3) := by decide +kernel
theorem dX1_isThere_25 : decode cX1_isThere 25 = .ok (.bipush 100, 2) := by decide +kernel
theorem dX1_isThere_27 : decode cX1_isThere 27 = .ok (.iload_n 1, 1) := by decide +kernel
theorem dX1_isThere_28 : decode cX1_isThere 28 = .ok (.sipush 1000, 3) := by decide +kernel
theorem dX1_isThere_31 : decode cX1_isThere 31 = .ok (.idiv, 1) := by decide +kernel
theorem dX1_isThere_32 : decode cX1_isThere 32 = .ok (.imul, 1) := by decide +kernel
theorem dX1_isThere_33 : decode cX1_isThere 33 = .ok (.iload_n 1, 1) := by decide +kernel
theorem dX1_isThere_34 : decode cX1_isThere 34 = .ok (.sipush 1000, 3) := by decide +kernel
theorem dX1_isThere_37 : decode cX1_isThere 37 = .ok (.irem, 1) := by decide +kernel
theorem dX1_isThere_38 : decode cX1_isThere 38 = .ok (.iadd, 1) := by decide +kernel
theorem dX1_isThere_39 : decode cX1_isThere 39 = .ok (.baload, 1) := by decide +kernel
theorem dX1_isThere_40 : decode cX1_isThere 40 = .ok (.ifCond .eq 7, 3) := by decide +kernel
theorem dX1_isThere_43 : decode cX1_isThere 43 = .ok (.iconst 1, 1) := by decide +kernel
theorem dX1_isThere_44 : decode cX1_isThere 44 = .ok (.goto 4, 3) := by decide +kernel
theorem dX1_isThere_47 : decode cX1_isThere 47 = .ok (.iconst 0, 1) := by decide +kernel
theorem dX1_isThere_48 : decode cX1_isThere 48 = .ok (.ireturn, 1) := by decide +kernel
theorem dX1_drop_0 : decode cX1_drop 0 = .ok (.aload_n 0, 1) := by decide +kernel
theorem dX1_drop_1 : decode cX1_drop 1 = .ok (.iload_n 1, 1) := by decide +kernel
theorem dX1_drop_2 : decode cX1_drop 2 = .ok (.invokevirtual 37, 3) := by decide +kernel
theorem dX1_drop_5 : decode cX1_drop 5 = .ok (.istore_n 2, 1) := by decide +kernel
theorem dX1_drop_6 : decode cX1_drop 6 = .ok (.iload_n 2, 1) := by decide +kernel
theorem dX1_drop_7 : decode cX1_drop 7 = .ok (.ifCond .eq 23, 3) := by decide +kernel
theorem dX1_drop_10 : decode cX1_drop 10 = .ok (.aload_n 0, 1) := by decide +kernel
theorem dX1_drop_11 : decode cX1_drop 11 = .ok (.getfield 23, 3) := by decide +kernel
theorem dX1_drop_14 : decode cX1_drop 14 = .ok (.bipush 100, 2) := by decide +kernel
theorem dX1_drop_16 : decode cX1_drop 16 = .ok (.iload_n 1, 1) := by decide +kernel
theorem dX1_drop_17 : decode cX1_drop 17 = .ok (.sipush 1000, 3) := by decide +kernel
theorem dX1_drop_20 : decode cX1_drop 20 = .ok (.idiv, 1) := by decide +kernel
theorem dX1_drop_21 : decode cX1_drop 21 = .ok (.imul, 1) := by decide +kernel
theorem dX1_drop_22 : decode cX1_drop 22 = .ok (.iload_n 1, 1) := by decide +kernel
theorem dX1_drop_23 : decode cX1_drop 23 = .ok (.sipush 1000, 3) := by decide +kernel
theorem dX1_drop_26 : decode cX1_drop 26 = .ok (.irem, 1) := by decide +kernel
theorem dX1_drop_27 : decode cX1_drop 27 = .ok (.iadd, 1) := by decide +kernel
theorem dX1_drop_28 : decode cX1_drop 28 = .ok (.iconst 0, 1) := by decide +kernel
theorem dX1_drop_29 : decode cX1_drop 29 = .ok (.bastore, 1) := by decide +kernel
theorem dX1_drop_30 : decode cX1_drop 30 = .ok (.iload_n 2, 1) := by decide +kernel
theorem dX1_drop_31 : decode cX1_drop 31 = .ok (.ireturn, 1) := by decide +kernel
theorem dX1_numbers_0 : decode cX1_numbers 0 = .ok (.iload_n 1, 1) := by decide +kernel
theorem dX1_numbers_1 : decode cX1_numbers 1 = .ok (.ifCond .lt 9, 3) := by decide +kernel
theorem dX1_numbers_4 : decode cX1_numbers 4 = .ok (.iload_n 1, 1) := by decide +kernel
theorem dX1_numbers_5 : decode cX1_numbers 5 = .ok (.bipush 9, 2) := by decide +kernel
theorem dX1_numbers_7 : decode cX1_numbers 7 = .ok (.if_icmp .le 5, 3) := by decide +kernel
theorem dX1_numbers_10 : decode cX1_numbers 10 = .ok (.iconst (-1), 1) := by decide +kernel
theorem dX1_numbers_11 : decode cX1_numbers 11 = .ok (.ireturn, 1) := by decide +kernel
theorem dX1_numbers_12 : decode cX1_numbers 12 = .ok (.iconst 0, 1) := by decide +kernel
theorem dX1_numbers_13 : decode cX1_numbers 13 = .ok (.istore_n 2, 1) := by decide +kernel
theorem dX1_numbers_14 : decode cX1_numbers 14 = .ok (.iconst 0, 1) := by decide +kernel
theorem dX1_numbers_15 : decode cX1_numbers 15 = .ok (.istore_n 3, 1) := by decide +kernel
theorem dX1_numbers_16 : decode cX1_numbers 16 = .ok (.iload_n 3, 1) := by decide +kernel
theorem dX1_numbers_17 : decode cX1_numbers 17 = .ok (.bipush 100, 2) := by decide +kernel
theorem dX1_numbers_19 : decode cX1_numbers 19 = .ok (.if_icmp .ge 31, 3) := by decide +kernel
theorem dX1_numbers_22 : decode cX1_numbers 22 = .ok (.iload_n 2, 1) := by decide +kernel
theorem dX1_numbers_23 : decode cX1_numbers 23 = .ok (.aload_n 0, 1) := by decide +kernel
theorem dX1_numbers_24 : decode cX1_numbers 24 = .ok (.getfield 23, 3) := by decide +kernel
theorem dX1_numbers_27 : decode cX1_numbers 27 = .ok (.bipush 100, 2) := by decide +kernel
theorem dX1_numbers_29 : decode cX1_numbers 29 = .ok (.iload_n 1, 1) := by decide +kernel
theorem dX1_numbers_30 : decode cX1_numbers 30 = .ok (.imul, 1) := by decide +kernel
theorem dX1_numbers_31 : decode cX1_numbers 31 = .ok (.iload_n 3, 1) := by decide +kernel
theorem dX1_numbers_32 : decode cX1_numbers 32 = .ok (.iadd, 1) := by decide +kernel
theorem dX1_numbers_33 : decode cX1_numbers 33 = .ok (.baload, 1) := by decide +kernel
theorem dX1_numbers_34 : decode cX1_numbers 34 = .ok (.ifCond .eq 7, 3) := by decide +kernel
theorem dX1_numbers_37 : decode cX1_numbers 37 = .ok (.iconst 1, 1) := by decide +kernel
theorem dX1_numbers_38 : decode cX1_numbers 38 = .ok (.goto 4, 3) := by decide +kernel
theorem dX1_numbers_41 : decode cX1_numbers 41 = .ok (.iconst 0, 1) := by decide +kernel
theorem dX1_numbers_42 : decode cX1_numbers 42 = .ok (.iadd, 1) := by decide +kernel
theorem dX1_numbers_43 : decode cX1_numbers 43 = .ok (.istore_n 2, 1) := by decide +kernel
theorem dX1_numbers_44 : decode cX1_numbers 44 = .ok (.iinc 3 1, 3) := by decide +kernel
theorem dX1_numbers_47 : decode cX1_numbers 47 = .ok (.goto (-31), 3) := by decide +kernel
theorem dX1_numbers_50 : decode cX1_numbers 50 = .ok (.iload_n 2, 1) := by decide +kernel
theorem dX1_numbers_51 : decode cX1_numbers 51 = .ok (.ireturn, 1) := by decide +kernel
theorem dX1_way_0 : decode cX1_way 0 = .ok (.iload_n 1, 1) := by decide +kernel
theorem dX1_way_1 : decode cX1_way 1 = .ok (.ifCond .lt 9, 3) := by decide +kernel
theorem dX1_way_4 : decode cX1_way 4 = .ok (.iload_n 1, 1) := by decide +kernel
theorem dX1_way_5 : decode cX1_way 5 = .ok (.bipush 19, 2) := by decide +kernel
theorem dX1_way_7 : decode cX1_way 7 = .ok (.if_icmp .le 5, 3) := by decide +kernel
theorem dX1_way_10 : decode cX1_way 10 = .ok (.iconst 1, 1) := by decide +kernel
theorem dX1_way_11 : decode cX1_way 11 = .ok (.ireturn, 1) := by decide +kernel
theorem dX1_way_12 : decode cX1_way 12 = .ok (.aload_n 0, 1) := by decide +kernel
theorem dX1_way_13 : decode cX1_way 13 = .ok (.iload_n 2, 1) := by decide +kernel
theorem dX1_way_14 : decode cX1_way 14 = .ok (.invokevirtual 37, 3) := by decide +kernel
theorem dX1_way_17 : decode cX1_way 17 = .ok (.ifCond .eq 15, 3) := by decide +kernel
theorem dX1_way_20 : decode cX1_way 20 = .ok (.iload_n 2, 1) := by decide +kernel
theorem dX1_way_21 : decode cX1_way 21 = .ok (.sipush 1000, 3) := by decide +kernel
theorem dX1_way_24 : decode cX1_way 24 = .ok (.idiv, 1) := by decide +kernel
theorem dX1_way_25 : decode cX1_way 25 = .ok (.iload_n 1, 1) := by decide +kernel
theorem dX1_way_26 : decode cX1_way 26 = .ok (.bipush 10, 2) := by decide +kernel
theorem dX1_way_28 : decode cX1_way 28 = .ok (.irem, 1) := by decide +kernel
theorem dX1_way_29 : decode cX1_way 29 = .ok (.if_icmp .eq 5, 3) := by decide +kernel
theorem dX1_way_32 : decode cX1_way 32 = .ok (.iconst 2, 1) := by decide +kernel
theorem dX1_way_33 : decode cX1_way 33 = .ok (.ireturn, 1) := by decide +kernel
theorem dX1_way_34 : decode cX1_way 34 = .ok (.iload_n 1, 1) := by decide +kernel
theorem dX1_way_35 : decode cX1_way 35 = .ok (.bipush 9, 2) := by decide +kernel
theorem dX1_way_37 : decode cX1_way 37 = .ok (.if_icmp .le 14, 3) := by decide +kernel
theorem dX1_way_40 : decode cX1_way 40 = .ok (.aload_n 0, 1) := by decide +kernel
theorem dX1_way_41 : decode cX1_way 41 = .ok (.getfield 33, 3) := by decide +kernel
theorem dX1_way_44 : decode cX1_way 44 = .ok (.ifCond .ne 7, 3) := by decide +kernel
theorem dX1_way_47 : decode cX1_way 47 = .ok (.iconst 3, 1) := by decide +kernel
theorem dX1_way_48 : decode cX1_way 48 = .ok (.goto 17, 3) := by decide +kernel
theorem dX1_way_51 : decode cX1_way 51 = .ok (.aload_n 0, 1) := by decide +kernel
theorem dX1_way_52 : decode cX1_way 52 = .ok (.getfield 16, 3) := by decide +kernel
theorem dX1_way_55 : decode cX1_way 55 = .ok (.iload_n 1, 1) := by decide +kernel
theorem dX1_way_56 : decode cX1_way 56 = .ok (.iaload, 1) := by decide +kernel
theorem dX1_way_57 : decode cX1_way 57 = .ok (.ifCond .le 7, 3) := by decide +kernel
theorem dX1_way_60 : decode cX1_way 60 = .ok (.iconst 4, 1) := by decide +kernel
theorem dX1_way_61 : decode cX1_way 61 = .ok (.goto 4, 3) := by decide +kernel
theorem dX1_way_64 : decode cX1_way 64 = .ok (.iconst 0, 1) := by decide +kernel
theorem dX1_way_65 : decode cX1_way 65 = .ok (.ireturn, 1) := by decide +kernel
theorem dX1_told_0 : decode cX1_told 0 = .ok (.iload_n 1, 1) := by decide +kernel
theorem dX1_told_1 : decode cX1_told 1 = .ok (.ifCond .le 40, 3) := by decide +kernel
theorem dX1_told_4 : decode cX1_told 4 = .ok (.iload_n 1, 1) := by decide +kernel
theorem dX1_told_5 : decode cX1_told 5 = .ok (.iconst 1, 1) := by decide +kernel
theorem dX1_told_6 : decode cX1_told 6 = .ok (.if_icmp .ne 9, 3) := by decide +kernel
theorem dX1_told_9 : decode cX1_told 9 = .ok (.ldc2_w 41, 3) := by decide +kernel
theorem dX1_told_12 : decode cX1_told 12 = .ok (.goto 28, 3) := by decide +kernel
theorem dX1_told_15 : decode cX1_told 15 = .ok (.iload_n 1, 1) := by decide +kernel
theorem dX1_told_16 : decode cX1_told 16 = .ok (.iconst 2, 1) := by decide +kernel
theorem dX1_told_17 : decode cX1_told 17 = .ok (.if_icmp .ne 9, 3) := by decide +kernel
theorem dX1_told_20 : decode cX1_told 20 = .ok (.ldc2_w 43, 3) := by decide +kernel
theorem dX1_told_23 : decode cX1_told 23 = .ok (.goto 17, 3) := by decide +kernel
theorem dX1_told_26 : decode cX1_told 26 = .ok (.iload_n 1, 1) := by decide +kernel
theorem dX1_told_27 : decode cX1_told 27 = .ok (.iconst 3, 1) := by decide +kernel
theorem dX1_told_28 : decode cX1_told 28 = .ok (.if_icmp .ne 9, 3) := by decide +kernel
theorem dX1_told_31 : decode cX1_told 31 = .ok (.ldc2_w 45, 3) := by decide +kernel
theorem dX1_told_34 : decode cX1_told 34 = .ok (.goto 6, 3) := by decide +kernel
theorem dX1_told_37 : decode cX1_told 37 = .ok (.ldc2_w 47, 3) := by decide +kernel
theorem dX1_told_40 : decode cX1_told 40 = .ok (.lreturn, 1) := by decide +kernel
theorem dX1_told_41 : decode cX1_told 41 = .ok (.lconst 0, 1) := by decide +kernel
theorem dX1_told_42 : decode cX1_told 42 = .ok (.lstore 5, 2) := by decide +kernel
theorem dX1_told_44 : decode cX1_told 44 = .ok (.iconst 0, 1) := by decide +kernel
theorem dX1_told_45 : decode cX1_told 45 = .ok (.istore 7, 2) := by decide +kernel
theorem dX1_told_47 : decode cX1_told 47 = .ok (.iload 7, 2) := by decide +kernel
theorem dX1_told_49 : decode cX1_told 49 = .ok (.aload_n 0, 1) := by decide +kernel
theorem dX1_told_50 : decode cX1_told 50 = .ok (.getfield 33, 3) := by decide +kernel
theorem dX1_told_53 : decode cX1_told 53 = .ok (.if_icmp .ge 25, 3) := by decide +kernel
theorem dX1_told_56 : decode cX1_told 56 = .ok (.ldc2_w 49, 3) := by decide +kernel
theorem dX1_told_59 : decode cX1_told 59 = .ok (.lload 5, 2) := by decide +kernel
theorem dX1_told_61 : decode cX1_told 61 = .ok (.lmul, 1) := by decide +kernel
theorem dX1_told_62 : decode cX1_told 62 = .ok (.aload_n 0, 1) := by decide +kernel
theorem dX1_told_63 : decode cX1_told 63 = .ok (.getfield 7, 3) := by decide +kernel
theorem dX1_told_66 : decode cX1_told 66 = .ok (.iload 7, 2) := by decide +kernel
theorem dX1_told_68 : decode cX1_told 68 = .ok (.laload, 1) := by decide +kernel
theorem dX1_told_69 : decode cX1_told 69 = .ok (.ladd, 1) := by decide +kernel
theorem dX1_told_70 : decode cX1_told 70 = .ok (.lstore 5, 2) := by decide +kernel
theorem dX1_told_72 : decode cX1_told 72 = .ok (.iinc 7 1, 3) := by decide +kernel
theorem dX1_told_75 : decode cX1_told 75 = .ok (.goto (-28), 3) := by decide +kernel
theorem dX1_told_78 : decode cX1_told 78 = .ok (.aload_n 0, 1) := by decide +kernel
theorem dX1_told_79 : decode cX1_told 79 = .ok (.getfield 13, 3) := by decide +kernel
theorem dX1_told_82 : decode cX1_told 82 = .ok (.iload_n 2, 1) := by decide +kernel
theorem dX1_told_83 : decode cX1_told 83 = .ok (.laload, 1) := by decide +kernel
theorem dX1_told_84 : decode cX1_told 84 = .ok (.lload_n 3, 1) := by decide +kernel
theorem dX1_told_85 : decode cX1_told 85 = .ok (.ladd, 1) := by decide +kernel
theorem dX1_told_86 : decode cX1_told 86 = .ok (.lload 5, 2) := by decide +kernel
theorem dX1_told_88 : decode cX1_told 88 = .ok (.ladd, 1) := by decide +kernel
theorem dX1_told_89 : decode cX1_told 89 = .ok (.lreturn, 1) := by decide +kernel
theorem dX1_logBehind_0 : decode cX1_logBehind 0 = .ok (.iload_n 1, 1) := by decide +kernel
theorem dX1_logBehind_1 : decode cX1_logBehind 1 = .ok (.iconst 1, 1) := by decide +kernel
theorem dX1_logBehind_2 : decode cX1_logBehind 2 = .ok (.if_icmp .ne 8, 3) := by decide +kernel
theorem dX1_logBehind_5 : decode cX1_logBehind 5 = .ok (.aload_n 0, 1) := by decide +kernel
theorem dX1_logBehind_6 : decode cX1_logBehind 6 = .ok (.getfield 29, 3) := by decide +kernel
theorem dX1_logBehind_9 : decode cX1_logBehind 9 = .ok (.lreturn, 1) := by decide +kernel
theorem dX1_logBehind_10 : decode cX1_logBehind 10 = .ok (.ldc2_w 51, 3) := by decide +kernel
theorem dX1_logBehind_13 : decode cX1_logBehind 13 = .ok (.aload_n 0, 1) := by decide +kernel
theorem dX1_logBehind_14 : decode cX1_logBehind 14 = .ok (.getfield 29, 3) := by decide +kernel
theorem dX1_logBehind_17 : decode cX1_logBehind 17 = .ok (.lmul, 1) := by decide +kernel
theorem dX1_logBehind_18 : decode cX1_logBehind 18 = .ok (.ldc2_w 53, 3) := by decide +kernel
theorem dX1_logBehind_21 : decode cX1_logBehind 21 = .ok (.iload_n 3, 1) := by decide +kernel
theorem dX1_logBehind_22 : decode cX1_logBehind 22 = .ok (.i2l, 1) := by decide +kernel
theorem dX1_logBehind_23 : decode cX1_logBehind 23 = .ok (.lmul, 1) := by decide +kernel
theorem dX1_logBehind_24 : decode cX1_logBehind 24 = .ok (.ladd, 1) := by decide +kernel
theorem dX1_logBehind_25 : decode cX1_logBehind 25 = .ok (.iload_n 2, 1) := by decide +kernel
theorem dX1_logBehind_26 : decode cX1_logBehind 26 = .ok (.i2l, 1) := by decide +kernel
theorem dX1_logBehind_27 : decode cX1_logBehind 27 = .ok (.ladd, 1) := by decide +kernel
theorem dX1_logBehind_28 : decode cX1_logBehind 28 = .ok (.lstore 6, 2) := by decide +kernel
theorem dX1_logBehind_30 : decode cX1_logBehind 30 = .ok (.iload_n 1, 1) := by decide +kernel
theorem dX1_logBehind_31 : decode cX1_logBehind 31 = .ok (.ifCond .ne 15, 3) := by decide +kernel
theorem dX1_logBehind_34 : decode cX1_logBehind 34 = .ok (.ldc2_w 55, 3) := by decide +kernel
theorem dX1_logBehind_37 : decode cX1_logBehind 37 = .ok (.lload 6, 2) := by decide +kernel
theorem dX1_logBehind_39 : decode cX1_logBehind 39 = .ok (.lmul, 1) := by decide +kernel
theorem dX1_logBehind_40 : decode cX1_logBehind 40 = .ok (.lload 4, 2) := by decide +kernel
theorem dX1_logBehind_42 : decode cX1_logBehind 42 = .ok (.ladd, 1) := by decide +kernel
theorem dX1_logBehind_43 : decode cX1_logBehind 43 = .ok (.goto 35, 3) := by decide +kernel
theorem dX1_logBehind_46 : decode cX1_logBehind 46 = .ok (.iload_n 1, 1) := by decide +kernel
theorem dX1_logBehind_47 : decode cX1_logBehind 47 = .ok (.iconst 4, 1) := by decide +kernel
theorem dX1_logBehind_48 : decode cX1_logBehind 48 = .ok (.if_icmp .ne 22, 3) := by decide +kernel
theorem dX1_logBehind_51 : decode cX1_logBehind 51 = .ok (.ldc2_w 55, 3) := by decide +kernel
theorem dX1_logBehind_54 : decode cX1_logBehind 54 = .ok (.lload 6, 2) := by decide +kernel
theorem dX1_logBehind_56 : decode cX1_logBehind 56 = .ok (.lmul, 1) := by decide +kernel
theorem dX1_logBehind_57 : decode cX1_logBehind 57 = .ok (.lconst 1, 1) := by decide +kernel
theorem dX1_logBehind_58 : decode cX1_logBehind 58 = .ok (.lsub, 1) := by decide +kernel
theorem dX1_logBehind_59 : decode cX1_logBehind 59 = .ok (.aload_n 0, 1) := by decide +kernel
theorem dX1_logBehind_60 : decode cX1_logBehind 60 = .ok (.getfield 16, 3) := by decide +kernel
theorem dX1_logBehind_63 : decode cX1_logBehind 63 = .ok (.iload_n 2, 1) := by decide +kernel
theorem dX1_logBehind_64 : decode cX1_logBehind 64 = .ok (.iaload, 1) := by decide +kernel
theorem dX1_logBehind_65 : decode cX1_logBehind 65 = .ok (.i2l, 1) := by decide +kernel
theorem dX1_logBehind_66 : decode cX1_logBehind 66 = .ok (.lsub, 1) := by decide +kernel
theorem dX1_logBehind_67 : decode cX1_logBehind 67 = .ok (.goto 11, 3) := by decide +kernel
theorem dX1_logBehind_70 : decode cX1_logBehind 70 = .ok (.ldc2_w 55, 3) := by decide +kernel
theorem dX1_logBehind_73 : decode cX1_logBehind 73 = .ok (.lload 6, 2) := by decide +kernel
theorem dX1_logBehind_75 : decode cX1_logBehind 75 = .ok (.lmul, 1) := by decide +kernel
theorem dX1_logBehind_76 : decode cX1_logBehind 76 = .ok (.lconst 1, 1) := by decide +kernel
theorem dX1_logBehind_77 : decode cX1_logBehind 77 = .ok (.lsub, 1) := by decide +kernel
theorem dX1_logBehind_78 : decode cX1_logBehind 78 = .ok (.lreturn, 1) := by decide +kernel
theorem dX1_call_0 : decode cX1_call 0 = .ok (.aload_n 0, 1) := by decide +kernel
theorem dX1_call_1 : decode cX1_call 1 = .ok (.iload_n 1, 1) := by decide +kernel
theorem dX1_call_2 : decode cX1_call 2 = .ok (.iload_n 2, 1) := by decide +kernel
theorem dX1_call_3 : decode cX1_call 3 = .ok (.invokevirtual 57, 3) := by decide +kernel
theorem dX1_call_6 : decode cX1_call 6 = .ok (.istore 5, 2) := by decide +kernel
theorem dX1_call_8 : decode cX1_call 8 = .ok (.aload_n 0, 1) := by decide +kernel
theorem dX1_call_9 : decode cX1_call 9 = .ok (.iload 5, 2) := by decide +kernel
theorem dX1_call_11 : decode cX1_call 11 = .ok (.iload_n 1, 1) := by decide +kernel
theorem dX1_call_12 : decode cX1_call 12 = .ok (.lload_n 3, 1) := by decide +kernel
theorem dX1_call_13 : decode cX1_call 13 = .ok (.invokevirtual 61, 3) := by decide +kernel
theorem dX1_call_16 : decode cX1_call 16 = .ok (.lstore 6, 2) := by decide +kernel
theorem dX1_call_18 : decode cX1_call 18 = .ok (.aload_n 0, 1) := by decide +kernel
theorem dX1_call_19 : decode cX1_call 19 = .ok (.aload_n 0, 1) := by decide +kernel
theorem dX1_call_20 : decode cX1_call 20 = .ok (.iload 5, 2) := by decide +kernel
theorem dX1_call_22 : decode cX1_call 22 = .ok (.iload_n 1, 1) := by decide +kernel
theorem dX1_call_23 : decode cX1_call 23 = .ok (.iload_n 2, 1) := by decide +kernel
theorem dX1_call_24 : decode cX1_call 24 = .ok (.lload 6, 2) := by decide +kernel
theorem dX1_call_26 : decode cX1_call 26 = .ok (.invokevirtual 65, 3) := by decide +kernel
theorem dX1_call_29 : decode cX1_call 29 = .ok (.putfield 29, 3) := by decide +kernel
theorem dX1_call_32 : decode cX1_call 32 = .ok (.iload 5, 2) := by decide +kernel
theorem dX1_call_34 : decode cX1_call 34 = .ok (.ifCond .ne 21, 3) := by decide +kernel
theorem dX1_call_37 : decode cX1_call 37 = .ok (.aload_n 0, 1) := by decide +kernel
theorem dX1_call_38 : decode cX1_call 38 = .ok (.dup, 1) := by decide +kernel
theorem dX1_call_39 : decode cX1_call 39 = .ok (.getfield 69, 3) := by decide +kernel
theorem dX1_call_42 : decode cX1_call 42 = .ok (.lconst 1, 1) := by decide +kernel
theorem dX1_call_43 : decode cX1_call 43 = .ok (.ladd, 1) := by decide +kernel
theorem dX1_call_44 : decode cX1_call 44 = .ok (.putfield 69, 3) := by decide +kernel
theorem dX1_call_47 : decode cX1_call 47 = .ok (.aload_n 0, 1) := by decide +kernel
theorem dX1_call_48 : decode cX1_call 48 = .ok (.iconst 0, 1) := by decide +kernel
theorem dX1_call_49 : decode cX1_call 49 = .ok (.putfield 33, 3) := by decide +kernel
theorem dX1_call_52 : decode cX1_call 52 = .ok (.goto 58, 3) := by decide +kernel
theorem dX1_call_55 : decode cX1_call 55 = .ok (.iload 5, 2) := by decide +kernel
theorem dX1_call_57 : decode cX1_call 57 = .ok (.iconst 4, 1) := by decide +kernel
theorem dX1_call_58 : decode cX1_call 58 = .ok (.if_icmp .ne 36, 3) := by decide +kernel
theorem dX1_call_61 : decode cX1_call 61 = .ok (.aload_n 0, 1) := by decide +kernel
theorem dX1_call_62 : decode cX1_call 62 = .ok (.dup, 1) := by decide +kernel
theorem dX1_call_63 : decode cX1_call 63 = .ok (.getfield 72, 3) := by decide +kernel
theorem dX1_call_66 : decode cX1_call 66 = .ok (.lconst 1, 1) := by decide +kernel
theorem dX1_call_67 : decode cX1_call 67 = .ok (.ladd, 1) := by decide +kernel
theorem dX1_call_68 : decode cX1_call 68 = .ok (.putfield 72, 3) := by decide +kernel
theorem dX1_call_71 : decode cX1_call 71 = .ok (.aload_n 0, 1) := by decide +kernel
theorem dX1_call_72 : decode cX1_call 72 = .ok (.aload_n 0, 1) := by decide +kernel
theorem dX1_call_73 : decode cX1_call 73 = .ok (.getfield 16, 3) := by decide +kernel
theorem dX1_call_76 : decode cX1_call 76 = .ok (.iload_n 1, 1) := by decide +kernel
theorem dX1_call_77 : decode cX1_call 77 = .ok (.iaload, 1) := by decide +kernel
theorem dX1_call_78 : decode cX1_call 78 = .ok (.putfield 75, 3) := by decide +kernel
theorem dX1_call_81 : decode cX1_call 81 = .ok (.aload_n 0, 1) := by decide +kernel
theorem dX1_call_82 : decode cX1_call 82 = .ok (.iload_n 2, 1) := by decide +kernel
theorem dX1_call_83 : decode cX1_call 83 = .ok (.putfield 78, 3) := by decide +kernel
theorem dX1_call_86 : decode cX1_call 86 = .ok (.aload_n 0, 1) := by decide +kernel
theorem dX1_call_87 : decode cX1_call 87 = .ok (.iload_n 1, 1) := by decide +kernel
theorem dX1_call_88 : decode cX1_call 88 = .ok (.putfield 81, 3) := by decide +kernel
theorem dX1_call_91 : decode cX1_call 91 = .ok (.goto 19, 3) := by decide +kernel
theorem dX1_call_94 : decode cX1_call 94 = .ok (.iload 5, 2) := by decide +kernel
theorem dX1_call_96 : decode cX1_call 96 = .ok (.iconst 1, 1) := by decide +kernel
theorem dX1_call_97 : decode cX1_call 97 = .ok (.if_icmp .le 13, 3) := by decide +kernel
theorem dX1_call_100 : decode cX1_call 100 = .ok (.aload_n 0, 1) := by decide +kernel
theorem dX1_call_101 : decode cX1_call 101 = .ok (.dup, 1) := by decide +kernel
theorem dX1_call_102 : decode cX1_call 102 = .ok (.getfield 84, 3) := by decide +kernel
theorem dX1_call_105 : decode cX1_call 105 = .ok (.lconst 1, 1) := by decide +kernel
theorem dX1_call_106 : decode cX1_call 106 = .ok (.ladd, 1) := by decide +kernel
theorem dX1_call_107 : decode cX1_call 107 = .ok (.putfield 84, 3) := by decide +kernel
theorem dX1_call_110 : decode cX1_call 110 = .ok (.lload 6, 2) := by decide +kernel
theorem dX1_call_112 : decode cX1_call 112 = .ok (.lreturn, 1) := by decide +kernel
theorem dX1_again_0 : decode cX1_again 0 = .ok (.aload_n 0, 1) := by decide +kernel
theorem dX1_again_1 : decode cX1_again 1 = .ok (.aload_n 0, 1) := by decide +kernel
theorem dX1_again_2 : decode cX1_again 2 = .ok (.iload_n 1, 1) := by decide +kernel
theorem dX1_again_3 : decode cX1_again 3 = .ok (.iload_n 2, 1) := by decide +kernel
theorem dX1_again_4 : decode cX1_again 4 = .ok (.invokevirtual 57, 3) := by decide +kernel
theorem dX1_again_7 : decode cX1_again 7 = .ok (.iload_n 1, 1) := by decide +kernel
theorem dX1_again_8 : decode cX1_again 8 = .ok (.lload_n 3, 1) := by decide +kernel
theorem dX1_again_9 : decode cX1_again 9 = .ok (.invokevirtual 61, 3) := by decide +kernel
theorem dX1_again_12 : decode cX1_again 12 = .ok (.lreturn, 1) := by decide +kernel
abbrev cX1_log : ByteArray := prog_3_method_15_code
def yX1_log : MethodName := ⟨RX1, "log", "(IIJ)J"⟩
abbrev cX1_tell : ByteArray := prog_3_method_16_code
def yX1_tell : MethodName := ⟨RX1, "told", "(I)J"⟩
def wsX1_log_c : List Cond := [.methodLink RX1 57 yX1_way, .instanceMethod yX1_way, .selects RX1 yX1_way yX1_way, .initialized RX1, .methodLink RX1 61 yX1_told, .instanceMethod yX1_told, .selects RX1 yX1_told yX1_told, .methodLink RX1 65 yX1_logBehind, .instanceMethod yX1_logBehind, .selects RX1 yX1_logBehind yX1_logBehind]
def wsX1_log : List Cond := .code yX1_log cX1_log 6 (some .long) :: (wsX1_log_c ++ (wsX1_way ++ (wsX1_told ++ wsX1_logBehind)))
def wsX1_tell : List Cond := .code yX1_tell cX1_tell 2 (some .long) :: ([.fieldLink RX1 69 "PostDesk2Model" "answered" "J", .fieldLink RX1 84 "PostDesk2Model" "refused" "J", .fieldLink RX1 72 "PostDesk2Model" "failed" "J", .fieldLink RX1 75 "PostDesk2Model" "kindOf" "I", .fieldLink RX1 78 "PostDesk2Model" "numberOf" "I", .fieldLink RX1 81 "PostDesk2Model" "callOf" "I", .fieldLink RX1 33 "PostDesk2Model" "many" "I", .fieldLink RX1 29 "PostDesk2Model" "log" "J"] ++ wsX10)
theorem gX1_log_h1 : GoodIn wsX1_log [.methodLink RX1 57 yX1_way, .instanceMethod yX1_way, .selects RX1 yX1_way yX1_way, .initialized RX1] := goodIn_sub (fun _ h => List.mem_cons_of_mem _ (List.mem_append_left _ (List.mem_of_mem_take (i := 4) h))) (by decide +kernel)
theorem gX1_log_h2 : GoodIn wsX1_log [.methodLink RX1 61 yX1_told, .instanceMethod yX1_told, .selects RX1 yX1_told yX1_told, .initialized RX1] := goodIn_sub (fun _ h => List.mem_cons_of_mem _ (List.mem_append_left _ (by simp only [wsX1_log_c, List.mem_cons, List.not_mem_nil, or_false] at h ⊢; rcases h with h | h | h | h <;> simp only [h, true_or, or_true]))) (by decide +kernel)
theorem gX1_log_h3 : GoodIn wsX1_log [.methodLink RX1 65 yX1_logBehind, .instanceMethod yX1_logBehind, .selects RX1 yX1_logBehind yX1_logBehind, .initialized RX1] := goodIn_sub (fun _ h => List.mem_cons_of_mem _ (List.mem_append_left _ (by simp only [wsX1_log_c, List.mem_cons, List.not_mem_nil, or_false] at h ⊢; rcases h with h | h | h | h <;> simp only [h, true_or, or_true]))) (by decide +kernel)
theorem gX1_log_X1_way : GoodIn wsX1_log (wsV RX1 57 RX1 yX1_way wsX1_way) := goodIn_app gX1_log_h1 (fun w h => ⟨List.mem_cons_of_mem _ (List.mem_append_right _ (List.mem_append_left _ h)), (ggX1_again_X1_way w h).2⟩)
theorem gX1_log_X1_told : GoodIn wsX1_log (wsV RX1 61 RX1 yX1_told wsX1_told) := goodIn_app gX1_log_h2 (fun w h => ⟨List.mem_cons_of_mem _ (List.mem_append_right _ (List.mem_append_right _ (List.mem_append_left _ h))), (ggX1_again_X1_told w h).2⟩)
theorem gX1_log_X1_logBehind : GoodIn wsX1_log (wsV RX1 65 RX1 yX1_logBehind wsX1_logBehind) := goodIn_app gX1_log_h3 (fun w h => ⟨List.mem_cons_of_mem _ (List.mem_append_right _ (List.mem_append_right _ (List.mem_append_right _ h))), (ggX1_call_X1_logBehind w h).2⟩)
set_option maxRecDepth 20000 in
theorem gT_law_X1_log : GoodIn lw_tbl (wsV RL 65 RX1 yX1_log wsX1_log) := goodIn_p _ [250, 226, 209, 230, 239] (by decide +kernel) (by decide +kernel)
set_option maxRecDepth 20000 in
theorem gT_law_X1_tell : GoodIn lw_tbl (wsV RL 44 RX1 yX1_tell wsX1_tell) := goodIn_p _ [254] (by decide +kernel) (by decide +kernel)
theorem dX1_log_0 : decode cX1_log 0 = .ok (.aload_n 0, 1) := by decide +kernel
theorem dX1_log_1 : decode cX1_log 1 = .ok (.iload_n 1, 1) := by decide +kernel
theorem dX1_log_2 : decode cX1_log 2 = .ok (.iload_n 2, 1) := by decide +kernel
theorem dX1_log_3 : decode cX1_log 3 = .ok (.invokevirtual 57, 3) := by decide +kernel
theorem dX1_log_6 : decode cX1_log 6 = .ok (.istore 5, 2) := by decide +kernel
theorem dX1_log_8 : decode cX1_log 8 = .ok (.aload_n 0, 1) := by decide +kernel
theorem dX1_log_9 : decode cX1_log 9 = .ok (.iload 5, 2) := by decide +kernel
theorem dX1_log_11 : decode cX1_log 11 = .ok (.iload_n 1, 1) := by decide +kernel
theorem dX1_log_12 : decode cX1_log 12 = .ok (.iload_n 2, 1) := by decide +kernel
theorem dX1_log_13 : decode cX1_log 13 = .ok (.aload_n 0, 1) := by decide +kernel
theorem dX1_log_14 : decode cX1_log 14 = .ok (.iload 5, 2) := by decide +kernel
theorem dX1_log_16 : decode cX1_log 16 = .ok (.iload_n 1, 1) := by decide +kernel
theorem dX1_log_17 : decode cX1_log 17 = .ok (.lload_n 3, 1) := by decide +kernel
theorem dX1_log_18 : decode cX1_log 18 = .ok (.invokevirtual 61, 3) := by decide +kernel
theorem dX1_log_21 : decode cX1_log 21 = .ok (.invokevirtual 65, 3) := by decide +kernel
theorem dX1_log_24 : decode cX1_log 24 = .ok (.lreturn, 1) := by decide +kernel
theorem dX1_tell_0 : decode cX1_tell 0 = .ok (.iload_n 1, 1) := by decide +kernel
theorem dX1_tell_1 : decode cX1_tell 1 = .ok (.tableswitch 91 0 7 #[47, 52, 57, 62, 68, 74, 80, 86], 47) := by decide +kernel
theorem dX1_tell_48 : decode cX1_tell 48 = .ok (.aload_n 0, 1) := by decide +kernel
theorem dX1_tell_49 : decode cX1_tell 49 = .ok (.getfield 69, 3) := by decide +kernel
theorem dX1_tell_52 : decode cX1_tell 52 = .ok (.lreturn, 1) := by decide +kernel
theorem dX1_tell_53 : decode cX1_tell 53 = .ok (.aload_n 0, 1) := by decide +kernel
theorem dX1_tell_54 : decode cX1_tell 54 = .ok (.getfield 84, 3) := by decide +kernel
theorem dX1_tell_57 : decode cX1_tell 57 = .ok (.lreturn, 1) := by decide +kernel
theorem dX1_tell_58 : decode cX1_tell 58 = .ok (.aload_n 0, 1) := by decide +kernel
theorem dX1_tell_59 : decode cX1_tell 59 = .ok (.getfield 72, 3) := by decide +kernel
theorem dX1_tell_62 : decode cX1_tell 62 = .ok (.lreturn, 1) := by decide +kernel
theorem dX1_tell_63 : decode cX1_tell 63 = .ok (.aload_n 0, 1) := by decide +kernel
theorem dX1_tell_64 : decode cX1_tell 64 = .ok (.getfield 75, 3) := by decide +kernel
theorem dX1_tell_67 : decode cX1_tell 67 = .ok (.i2l, 1) := by decide +kernel
theorem dX1_tell_68 : decode cX1_tell 68 = .ok (.lreturn, 1) := by decide +kernel
theorem dX1_tell_69 : decode cX1_tell 69 = .ok (.aload_n 0, 1) := by decide +kernel
theorem dX1_tell_70 : decode cX1_tell 70 = .ok (.getfield 78, 3) := by decide +kernel
theorem dX1_tell_73 : decode cX1_tell 73 = .ok (.i2l, 1) := by decide +kernel
theorem dX1_tell_74 : decode cX1_tell 74 = .ok (.lreturn, 1) := by decide +kernel
theorem dX1_tell_75 : decode cX1_tell 75 = .ok (.aload_n 0, 1) := by decide +kernel
theorem dX1_tell_76 : decode cX1_tell 76 = .ok (.getfield 81, 3) := by decide +kernel
theorem dX1_tell_79 : decode cX1_tell 79 = .ok (.i2l, 1) := by decide +kernel
theorem dX1_tell_80 : decode cX1_tell 80 = .ok (.lreturn, 1) := by decide +kernel
theorem dX1_tell_81 : decode cX1_tell 81 = .ok (.aload_n 0, 1) := by decide +kernel
theorem dX1_tell_82 : decode cX1_tell 82 = .ok (.getfield 33, 3) := by decide +kernel
theorem dX1_tell_85 : decode cX1_tell 85 = .ok (.i2l, 1) := by decide +kernel
theorem dX1_tell_86 : decode cX1_tell 86 = .ok (.lreturn, 1) := by decide +kernel
theorem dX1_tell_87 : decode cX1_tell 87 = .ok (.aload_n 0, 1) := by decide +kernel
theorem dX1_tell_88 : decode cX1_tell 88 = .ok (.getfield 29, 3) := by decide +kernel
theorem dX1_tell_91 : decode cX1_tell 91 = .ok (.lreturn, 1) := by decide +kernel
theorem dX1_tell_92 : decode cX1_tell 92 = .ok (.lconst 0, 1) := by decide +kernel
theorem dX1_tell_93 : decode cX1_tell 93 = .ok (.lreturn, 1) := by decide +kernel
end
section
theorem dL_law_0 : decode cL_law 0 = .ok (.new 7, 3) := by decide +kernel
theorem dL_law_3 : decode cL_law 3 = .ok (.dup, 1) := by decide +kernel
theorem dL_law_4 : decode cL_law 4 = .ok (.invokespecial 9, 3) := by decide +kernel
theorem dL_law_7 : decode cL_law 7 = .ok (.astore_n 1, 1) := by decide +kernel
theorem dL_law_8 : decode cL_law 8 = .ok (.new 10, 3) := by decide +kernel
theorem dL_law_11 : decode cL_law 11 = .ok (.dup, 1) := by decide +kernel
theorem dL_law_12 : decode cL_law 12 = .ok (.invokespecial 12, 3) := by decide +kernel
theorem dL_law_15 : decode cL_law 15 = .ok (.astore_n 2, 1) := by decide +kernel
theorem dL_law_16 : decode cL_law 16 = .ok (.iconst 0, 1) := by decide +kernel
theorem dL_law_17 : decode cL_law 17 = .ok (.istore_n 3, 1) := by decide +kernel
theorem dL_law_18 : decode cL_law 18 = .ok (.iload_n 3, 1) := by decide +kernel
theorem dL_law_19 : decode cL_law 19 = .ok (.aload_n 0, 1) := by decide +kernel
theorem dL_law_20 : decode cL_law 20 = .ok (.arraylength, 1) := by decide +kernel
theorem dL_law_21 : decode cL_law 21 = .ok (.iconst 5, 1) := by decide +kernel
theorem dL_law_22 : decode cL_law 22 = .ok (.isub, 1) := by decide +kernel
theorem dL_law_23 : decode cL_law 23 = .ok (.if_icmp .gt 562, 3) := by decide +kernel
theorem dL_law_26 : decode cL_law 26 = .ok (.aload_n 0, 1) := by decide +kernel
theorem dL_law_27 : decode cL_law 27 = .ok (.iload_n 3, 1) := by decide +kernel
theorem dL_law_28 : decode cL_law 28 = .ok (.iaload, 1) := by decide +kernel
theorem dL_law_29 : decode cL_law 29 = .ok (.bipush 15, 2) := by decide +kernel
theorem dL_law_31 : decode cL_law 31 = .ok (.iand, 1) := by decide +kernel
theorem dL_law_32 : decode cL_law 32 = .ok (.tableswitch 547 0 10 #[60, 113, 176, 209, 232, 306, 330, 353, 376, 399, 473], 60) := by decide +kernel
theorem dL_law_92 : decode cL_law 92 = .ok (.aload_n 1, 1) := by decide +kernel
theorem dL_law_93 : decode cL_law 93 = .ok (.aload_n 0, 1) := by decide +kernel
theorem dL_law_94 : decode cL_law 94 = .ok (.iload_n 3, 1) := by decide +kernel
theorem dL_law_95 : decode cL_law 95 = .ok (.iconst 1, 1) := by decide +kernel
theorem dL_law_96 : decode cL_law 96 = .ok (.iadd, 1) := by decide +kernel
theorem dL_law_97 : decode cL_law 97 = .ok (.iaload, 1) := by decide +kernel
theorem dL_law_98 : decode cL_law 98 = .ok (.i2l, 1) := by decide +kernel
theorem dL_law_99 : decode cL_law 99 = .ok (.bipush 32, 2) := by decide +kernel
theorem dL_law_101 : decode cL_law 101 = .ok (.lshl, 1) := by decide +kernel
theorem dL_law_102 : decode cL_law 102 = .ok (.aload_n 0, 1) := by decide +kernel
theorem dL_law_103 : decode cL_law 103 = .ok (.iload_n 3, 1) := by decide +kernel
theorem dL_law_104 : decode cL_law 104 = .ok (.iconst 2, 1) := by decide +kernel
theorem dL_law_105 : decode cL_law 105 = .ok (.iadd, 1) := by decide +kernel
theorem dL_law_106 : decode cL_law 106 = .ok (.iaload, 1) := by decide +kernel
theorem dL_law_107 : decode cL_law 107 = .ok (.i2l, 1) := by decide +kernel
theorem dL_law_108 : decode cL_law 108 = .ok (.ldc2_w 13, 3) := by decide +kernel
theorem dL_law_111 : decode cL_law 111 = .ok (.land, 1) := by decide +kernel
theorem dL_law_112 : decode cL_law 112 = .ok (.lor, 1) := by decide +kernel
theorem dL_law_113 : decode cL_law 113 = .ok (.invokevirtual 15, 3) := by decide +kernel
theorem dL_law_116 : decode cL_law 116 = .ok (.aload_n 2, 1) := by decide +kernel
theorem dL_law_117 : decode cL_law 117 = .ok (.aload_n 0, 1) := by decide +kernel
theorem dL_law_118 : decode cL_law 118 = .ok (.iload_n 3, 1) := by decide +kernel
theorem dL_law_119 : decode cL_law 119 = .ok (.iconst 1, 1) := by decide +kernel
theorem dL_law_120 : decode cL_law 120 = .ok (.iadd, 1) := by decide +kernel
theorem dL_law_121 : decode cL_law 121 = .ok (.iaload, 1) := by decide +kernel
theorem dL_law_122 : decode cL_law 122 = .ok (.i2l, 1) := by decide +kernel
theorem dL_law_123 : decode cL_law 123 = .ok (.bipush 32, 2) := by decide +kernel
theorem dL_law_125 : decode cL_law 125 = .ok (.lshl, 1) := by decide +kernel
theorem dL_law_126 : decode cL_law 126 = .ok (.aload_n 0, 1) := by decide +kernel
theorem dL_law_127 : decode cL_law 127 = .ok (.iload_n 3, 1) := by decide +kernel
theorem dL_law_128 : decode cL_law 128 = .ok (.iconst 2, 1) := by decide +kernel
theorem dL_law_129 : decode cL_law 129 = .ok (.iadd, 1) := by decide +kernel
theorem dL_law_130 : decode cL_law 130 = .ok (.iaload, 1) := by decide +kernel
theorem dL_law_131 : decode cL_law 131 = .ok (.i2l, 1) := by decide +kernel
theorem dL_law_132 : decode cL_law 132 = .ok (.ldc2_w 13, 3) := by decide +kernel
theorem dL_law_135 : decode cL_law 135 = .ok (.land, 1) := by decide +kernel
theorem dL_law_136 : decode cL_law 136 = .ok (.lor, 1) := by decide +kernel
theorem dL_law_137 : decode cL_law 137 = .ok (.invokevirtual 19, 3) := by decide +kernel
theorem dL_law_140 : decode cL_law 140 = .ok (.if_icmp .eq 439, 3) := by decide +kernel
theorem dL_law_143 : decode cL_law 143 = .ok (.iconst 0, 1) := by decide +kernel
theorem dL_law_144 : decode cL_law 144 = .ok (.ireturn, 1) := by decide +kernel
theorem dL_law_145 : decode cL_law 145 = .ok (.aload_n 1, 1) := by decide +kernel
theorem dL_law_146 : decode cL_law 146 = .ok (.aload_n 0, 1) := by decide +kernel
theorem dL_law_147 : decode cL_law 147 = .ok (.iload_n 3, 1) := by decide +kernel
theorem dL_law_148 : decode cL_law 148 = .ok (.iconst 1, 1) := by decide +kernel
theorem dL_law_149 : decode cL_law 149 = .ok (.iadd, 1) := by decide +kernel
theorem dL_law_150 : decode cL_law 150 = .ok (.iaload, 1) := by decide +kernel
theorem dL_law_151 : decode cL_law 151 = .ok (.aload_n 0, 1) := by decide +kernel
theorem dL_law_152 : decode cL_law 152 = .ok (.iload_n 3, 1) := by decide +kernel
theorem dL_law_153 : decode cL_law 153 = .ok (.iconst 2, 1) := by decide +kernel
theorem dL_law_154 : decode cL_law 154 = .ok (.iadd, 1) := by decide +kernel
theorem dL_law_155 : decode cL_law 155 = .ok (.iaload, 1) := by decide +kernel
theorem dL_law_156 : decode cL_law 156 = .ok (.i2l, 1) := by decide +kernel
theorem dL_law_157 : decode cL_law 157 = .ok (.bipush 32, 2) := by decide +kernel
theorem dL_law_159 : decode cL_law 159 = .ok (.lshl, 1) := by decide +kernel
theorem dL_law_160 : decode cL_law 160 = .ok (.aload_n 0, 1) := by decide +kernel
theorem dL_law_161 : decode cL_law 161 = .ok (.iload_n 3, 1) := by decide +kernel
theorem dL_law_162 : decode cL_law 162 = .ok (.iconst 3, 1) := by decide +kernel
theorem dL_law_163 : decode cL_law 163 = .ok (.iadd, 1) := by decide +kernel
theorem dL_law_164 : decode cL_law 164 = .ok (.iaload, 1) := by decide +kernel
theorem dL_law_165 : decode cL_law 165 = .ok (.i2l, 1) := by decide +kernel
theorem dL_law_166 : decode cL_law 166 = .ok (.ldc2_w 13, 3) := by decide +kernel
theorem dL_law_169 : decode cL_law 169 = .ok (.land, 1) := by decide +kernel
theorem dL_law_170 : decode cL_law 170 = .ok (.lor, 1) := by decide +kernel
theorem dL_law_171 : decode cL_law 171 = .ok (.invokevirtual 20, 3) := by decide +kernel
theorem dL_law_174 : decode cL_law 174 = .ok (.aload_n 2, 1) := by decide +kernel
theorem dL_law_175 : decode cL_law 175 = .ok (.aload_n 0, 1) := by decide +kernel
theorem dL_law_176 : decode cL_law 176 = .ok (.iload_n 3, 1) := by decide +kernel
theorem dL_law_177 : decode cL_law 177 = .ok (.iconst 1, 1) := by decide +kernel
theorem dL_law_178 : decode cL_law 178 = .ok (.iadd, 1) := by decide +kernel
theorem dL_law_179 : decode cL_law 179 = .ok (.iaload, 1) := by decide +kernel
theorem dL_law_180 : decode cL_law 180 = .ok (.aload_n 0, 1) := by decide +kernel
theorem dL_law_181 : decode cL_law 181 = .ok (.iload_n 3, 1) := by decide +kernel
theorem dL_law_182 : decode cL_law 182 = .ok (.iconst 2, 1) := by decide +kernel
theorem dL_law_183 : decode cL_law 183 = .ok (.iadd, 1) := by decide +kernel
theorem dL_law_184 : decode cL_law 184 = .ok (.iaload, 1) := by decide +kernel
theorem dL_law_185 : decode cL_law 185 = .ok (.i2l, 1) := by decide +kernel
theorem dL_law_186 : decode cL_law 186 = .ok (.bipush 32, 2) := by decide +kernel
theorem dL_law_188 : decode cL_law 188 = .ok (.lshl, 1) := by decide +kernel
theorem dL_law_189 : decode cL_law 189 = .ok (.aload_n 0, 1) := by decide +kernel
theorem dL_law_190 : decode cL_law 190 = .ok (.iload_n 3, 1) := by decide +kernel
theorem dL_law_191 : decode cL_law 191 = .ok (.iconst 3, 1) := by decide +kernel
theorem dL_law_192 : decode cL_law 192 = .ok (.iadd, 1) := by decide +kernel
theorem dL_law_193 : decode cL_law 193 = .ok (.iaload, 1) := by decide +kernel
theorem dL_law_194 : decode cL_law 194 = .ok (.i2l, 1) := by decide +kernel
theorem dL_law_195 : decode cL_law 195 = .ok (.ldc2_w 13, 3) := by decide +kernel
theorem dL_law_198 : decode cL_law 198 = .ok (.land, 1) := by decide +kernel
theorem dL_law_199 : decode cL_law 199 = .ok (.lor, 1) := by decide +kernel
theorem dL_law_200 : decode cL_law 200 = .ok (.invokevirtual 24, 3) := by decide +kernel
theorem dL_law_203 : decode cL_law 203 = .ok (.if_icmp .eq 376, 3) := by decide +kernel
theorem dL_law_206 : decode cL_law 206 = .ok (.iconst 0, 1) := by decide +kernel
theorem dL_law_207 : decode cL_law 207 = .ok (.ireturn, 1) := by decide +kernel
theorem dL_law_208 : decode cL_law 208 = .ok (.aload_n 1, 1) := by decide +kernel
theorem dL_law_209 : decode cL_law 209 = .ok (.aload_n 0, 1) := by decide +kernel
theorem dL_law_210 : decode cL_law 210 = .ok (.iload_n 3, 1) := by decide +kernel
theorem dL_law_211 : decode cL_law 211 = .ok (.iconst 1, 1) := by decide +kernel
theorem dL_law_212 : decode cL_law 212 = .ok (.iadd, 1) := by decide +kernel
theorem dL_law_213 : decode cL_law 213 = .ok (.iaload, 1) := by decide +kernel
theorem dL_law_214 : decode cL_law 214 = .ok (.aload_n 0, 1) := by decide +kernel
theorem dL_law_215 : decode cL_law 215 = .ok (.iload_n 3, 1) := by decide +kernel
theorem dL_law_216 : decode cL_law 216 = .ok (.iconst 2, 1) := by decide +kernel
theorem dL_law_217 : decode cL_law 217 = .ok (.iadd, 1) := by decide +kernel
theorem dL_law_218 : decode cL_law 218 = .ok (.iaload, 1) := by decide +kernel
theorem dL_law_219 : decode cL_law 219 = .ok (.invokevirtual 25, 3) := by decide +kernel
theorem dL_law_222 : decode cL_law 222 = .ok (.aload_n 2, 1) := by decide +kernel
theorem dL_law_223 : decode cL_law 223 = .ok (.aload_n 0, 1) := by decide +kernel
theorem dL_law_224 : decode cL_law 224 = .ok (.iload_n 3, 1) := by decide +kernel
theorem dL_law_225 : decode cL_law 225 = .ok (.iconst 1, 1) := by decide +kernel
theorem dL_law_226 : decode cL_law 226 = .ok (.iadd, 1) := by decide +kernel
theorem dL_law_227 : decode cL_law 227 = .ok (.iaload, 1) := by decide +kernel
theorem dL_law_228 : decode cL_law 228 = .ok (.aload_n 0, 1) := by decide +kernel
theorem dL_law_229 : decode cL_law 229 = .ok (.iload_n 3, 1) := by decide +kernel
theorem dL_law_230 : decode cL_law 230 = .ok (.iconst 2, 1) := by decide +kernel
theorem dL_law_231 : decode cL_law 231 = .ok (.iadd, 1) := by decide +kernel
theorem dL_law_232 : decode cL_law 232 = .ok (.iaload, 1) := by decide +kernel
theorem dL_law_233 : decode cL_law 233 = .ok (.invokevirtual 29, 3) := by decide +kernel
theorem dL_law_236 : decode cL_law 236 = .ok (.if_icmp .eq 343, 3) := by decide +kernel
theorem dL_law_239 : decode cL_law 239 = .ok (.iconst 0, 1) := by decide +kernel
theorem dL_law_240 : decode cL_law 240 = .ok (.ireturn, 1) := by decide +kernel
theorem dL_law_241 : decode cL_law 241 = .ok (.aload_n 1, 1) := by decide +kernel
theorem dL_law_242 : decode cL_law 242 = .ok (.aload_n 0, 1) := by decide +kernel
theorem dL_law_243 : decode cL_law 243 = .ok (.iload_n 3, 1) := by decide +kernel
theorem dL_law_244 : decode cL_law 244 = .ok (.iconst 1, 1) := by decide +kernel
theorem dL_law_245 : decode cL_law 245 = .ok (.iadd, 1) := by decide +kernel
theorem dL_law_246 : decode cL_law 246 = .ok (.iaload, 1) := by decide +kernel
theorem dL_law_247 : decode cL_law 247 = .ok (.invokevirtual 30, 3) := by decide +kernel
theorem dL_law_250 : decode cL_law 250 = .ok (.aload_n 2, 1) := by decide +kernel
theorem dL_law_251 : decode cL_law 251 = .ok (.aload_n 0, 1) := by decide +kernel
theorem dL_law_252 : decode cL_law 252 = .ok (.iload_n 3, 1) := by decide +kernel
theorem dL_law_253 : decode cL_law 253 = .ok (.iconst 1, 1) := by decide +kernel
theorem dL_law_254 : decode cL_law 254 = .ok (.iadd, 1) := by decide +kernel
theorem dL_law_255 : decode cL_law 255 = .ok (.iaload, 1) := by decide +kernel
theorem dL_law_256 : decode cL_law 256 = .ok (.invokevirtual 34, 3) := by decide +kernel
theorem dL_law_259 : decode cL_law 259 = .ok (.if_icmp .eq 320, 3) := by decide +kernel
theorem dL_law_262 : decode cL_law 262 = .ok (.iconst 0, 1) := by decide +kernel
theorem dL_law_263 : decode cL_law 263 = .ok (.ireturn, 1) := by decide +kernel
theorem dL_law_264 : decode cL_law 264 = .ok (.aload_n 1, 1) := by decide +kernel
theorem dL_law_265 : decode cL_law 265 = .ok (.aload_n 0, 1) := by decide +kernel
theorem dL_law_266 : decode cL_law 266 = .ok (.iload_n 3, 1) := by decide +kernel
theorem dL_law_267 : decode cL_law 267 = .ok (.iconst 1, 1) := by decide +kernel
theorem dL_law_268 : decode cL_law 268 = .ok (.iadd, 1) := by decide +kernel
theorem dL_law_269 : decode cL_law 269 = .ok (.iaload, 1) := by decide +kernel
theorem dL_law_270 : decode cL_law 270 = .ok (.aload_n 0, 1) := by decide +kernel
theorem dL_law_271 : decode cL_law 271 = .ok (.iload_n 3, 1) := by decide +kernel
theorem dL_law_272 : decode cL_law 272 = .ok (.iconst 2, 1) := by decide +kernel
theorem dL_law_273 : decode cL_law 273 = .ok (.iadd, 1) := by decide +kernel
theorem dL_law_274 : decode cL_law 274 = .ok (.iaload, 1) := by decide +kernel
theorem dL_law_275 : decode cL_law 275 = .ok (.aload_n 0, 1) := by decide +kernel
theorem dL_law_276 : decode cL_law 276 = .ok (.iload_n 3, 1) := by decide +kernel
theorem dL_law_277 : decode cL_law 277 = .ok (.iconst 3, 1) := by decide +kernel
theorem dL_law_278 : decode cL_law 278 = .ok (.iadd, 1) := by decide +kernel
theorem dL_law_279 : decode cL_law 279 = .ok (.iaload, 1) := by decide +kernel
theorem dL_law_280 : decode cL_law 280 = .ok (.i2l, 1) := by decide +kernel
theorem dL_law_281 : decode cL_law 281 = .ok (.bipush 32, 2) := by decide +kernel
theorem dL_law_283 : decode cL_law 283 = .ok (.lshl, 1) := by decide +kernel
theorem dL_law_284 : decode cL_law 284 = .ok (.aload_n 0, 1) := by decide +kernel
theorem dL_law_285 : decode cL_law 285 = .ok (.iload_n 3, 1) := by decide +kernel
theorem dL_law_286 : decode cL_law 286 = .ok (.iconst 4, 1) := by decide +kernel
theorem dL_law_287 : decode cL_law 287 = .ok (.iadd, 1) := by decide +kernel
theorem dL_law_288 : decode cL_law 288 = .ok (.iaload, 1) := by decide +kernel
theorem dL_law_289 : decode cL_law 289 = .ok (.i2l, 1) := by decide +kernel
theorem dL_law_290 : decode cL_law 290 = .ok (.ldc2_w 13, 3) := by decide +kernel
theorem dL_law_293 : decode cL_law 293 = .ok (.land, 1) := by decide +kernel
theorem dL_law_294 : decode cL_law 294 = .ok (.lor, 1) := by decide +kernel
theorem dL_law_295 : decode cL_law 295 = .ok (.invokevirtual 35, 3) := by decide +kernel
theorem dL_law_298 : decode cL_law 298 = .ok (.aload_n 2, 1) := by decide +kernel
theorem dL_law_299 : decode cL_law 299 = .ok (.aload_n 0, 1) := by decide +kernel
theorem dL_law_300 : decode cL_law 300 = .ok (.iload_n 3, 1) := by decide +kernel
theorem dL_law_301 : decode cL_law 301 = .ok (.iconst 1, 1) := by decide +kernel
theorem dL_law_302 : decode cL_law 302 = .ok (.iadd, 1) := by decide +kernel
theorem dL_law_303 : decode cL_law 303 = .ok (.iaload, 1) := by decide +kernel
theorem dL_law_304 : decode cL_law 304 = .ok (.aload_n 0, 1) := by decide +kernel
theorem dL_law_305 : decode cL_law 305 = .ok (.iload_n 3, 1) := by decide +kernel
theorem dL_law_306 : decode cL_law 306 = .ok (.iconst 2, 1) := by decide +kernel
theorem dL_law_307 : decode cL_law 307 = .ok (.iadd, 1) := by decide +kernel
theorem dL_law_308 : decode cL_law 308 = .ok (.iaload, 1) := by decide +kernel
theorem dL_law_309 : decode cL_law 309 = .ok (.aload_n 0, 1) := by decide +kernel
theorem dL_law_310 : decode cL_law 310 = .ok (.iload_n 3, 1) := by decide +kernel
theorem dL_law_311 : decode cL_law 311 = .ok (.iconst 3, 1) := by decide +kernel
theorem dL_law_312 : decode cL_law 312 = .ok (.iadd, 1) := by decide +kernel
theorem dL_law_313 : decode cL_law 313 = .ok (.iaload, 1) := by decide +kernel
theorem dL_law_314 : decode cL_law 314 = .ok (.i2l, 1) := by decide +kernel
theorem dL_law_315 : decode cL_law 315 = .ok (.bipush 32, 2) := by decide +kernel
theorem dL_law_317 : decode cL_law 317 = .ok (.lshl, 1) := by decide +kernel
theorem dL_law_318 : decode cL_law 318 = .ok (.aload_n 0, 1) := by decide +kernel
theorem dL_law_319 : decode cL_law 319 = .ok (.iload_n 3, 1) := by decide +kernel
theorem dL_law_320 : decode cL_law 320 = .ok (.iconst 4, 1) := by decide +kernel
theorem dL_law_321 : decode cL_law 321 = .ok (.iadd, 1) := by decide +kernel
theorem dL_law_322 : decode cL_law 322 = .ok (.iaload, 1) := by decide +kernel
theorem dL_law_323 : decode cL_law 323 = .ok (.i2l, 1) := by decide +kernel
theorem dL_law_324 : decode cL_law 324 = .ok (.ldc2_w 13, 3) := by decide +kernel
theorem dL_law_327 : decode cL_law 327 = .ok (.land, 1) := by decide +kernel
theorem dL_law_328 : decode cL_law 328 = .ok (.lor, 1) := by decide +kernel
theorem dL_law_329 : decode cL_law 329 = .ok (.invokevirtual 39, 3) := by decide +kernel
theorem dL_law_332 : decode cL_law 332 = .ok (.lcmp, 1) := by decide +kernel
theorem dL_law_333 : decode cL_law 333 = .ok (.ifCond .eq 246, 3) := by decide +kernel
theorem dL_law_336 : decode cL_law 336 = .ok (.iconst 0, 1) := by decide +kernel
theorem dL_law_337 : decode cL_law 337 = .ok (.ireturn, 1) := by decide +kernel
theorem dL_law_338 : decode cL_law 338 = .ok (.aload_n 1, 1) := by decide +kernel
theorem dL_law_339 : decode cL_law 339 = .ok (.aload_n 0, 1) := by decide +kernel
theorem dL_law_340 : decode cL_law 340 = .ok (.iload_n 3, 1) := by decide +kernel
theorem dL_law_341 : decode cL_law 341 = .ok (.iconst 1, 1) := by decide +kernel
theorem dL_law_342 : decode cL_law 342 = .ok (.iadd, 1) := by decide +kernel
theorem dL_law_343 : decode cL_law 343 = .ok (.iaload, 1) := by decide +kernel
theorem dL_law_344 : decode cL_law 344 = .ok (.invokevirtual 40, 3) := by decide +kernel
theorem dL_law_347 : decode cL_law 347 = .ok (.aload_n 2, 1) := by decide +kernel
theorem dL_law_348 : decode cL_law 348 = .ok (.aload_n 0, 1) := by decide +kernel
theorem dL_law_349 : decode cL_law 349 = .ok (.iload_n 3, 1) := by decide +kernel
theorem dL_law_350 : decode cL_law 350 = .ok (.iconst 1, 1) := by decide +kernel
theorem dL_law_351 : decode cL_law 351 = .ok (.iadd, 1) := by decide +kernel
theorem dL_law_352 : decode cL_law 352 = .ok (.iaload, 1) := by decide +kernel
theorem dL_law_353 : decode cL_law 353 = .ok (.invokevirtual 44, 3) := by decide +kernel
theorem dL_law_356 : decode cL_law 356 = .ok (.lcmp, 1) := by decide +kernel
theorem dL_law_357 : decode cL_law 357 = .ok (.ifCond .eq 222, 3) := by decide +kernel
theorem dL_law_360 : decode cL_law 360 = .ok (.iconst 0, 1) := by decide +kernel
theorem dL_law_361 : decode cL_law 361 = .ok (.ireturn, 1) := by decide +kernel
theorem dL_law_362 : decode cL_law 362 = .ok (.aload_n 1, 1) := by decide +kernel
theorem dL_law_363 : decode cL_law 363 = .ok (.aload_n 0, 1) := by decide +kernel
theorem dL_law_364 : decode cL_law 364 = .ok (.iload_n 3, 1) := by decide +kernel
theorem dL_law_365 : decode cL_law 365 = .ok (.iconst 1, 1) := by decide +kernel
theorem dL_law_366 : decode cL_law 366 = .ok (.iadd, 1) := by decide +kernel
theorem dL_law_367 : decode cL_law 367 = .ok (.iaload, 1) := by decide +kernel
theorem dL_law_368 : decode cL_law 368 = .ok (.invokevirtual 45, 3) := by decide +kernel
theorem dL_law_371 : decode cL_law 371 = .ok (.aload_n 2, 1) := by decide +kernel
theorem dL_law_372 : decode cL_law 372 = .ok (.aload_n 0, 1) := by decide +kernel
theorem dL_law_373 : decode cL_law 373 = .ok (.iload_n 3, 1) := by decide +kernel
theorem dL_law_374 : decode cL_law 374 = .ok (.iconst 1, 1) := by decide +kernel
theorem dL_law_375 : decode cL_law 375 = .ok (.iadd, 1) := by decide +kernel
theorem dL_law_376 : decode cL_law 376 = .ok (.iaload, 1) := by decide +kernel
theorem dL_law_377 : decode cL_law 377 = .ok (.invokevirtual 49, 3) := by decide +kernel
theorem dL_law_380 : decode cL_law 380 = .ok (.if_icmp .eq 199, 3) := by decide +kernel
theorem dL_law_383 : decode cL_law 383 = .ok (.iconst 0, 1) := by decide +kernel
theorem dL_law_384 : decode cL_law 384 = .ok (.ireturn, 1) := by decide +kernel
theorem dL_law_385 : decode cL_law 385 = .ok (.aload_n 1, 1) := by decide +kernel
theorem dL_law_386 : decode cL_law 386 = .ok (.aload_n 0, 1) := by decide +kernel
theorem dL_law_387 : decode cL_law 387 = .ok (.iload_n 3, 1) := by decide +kernel
theorem dL_law_388 : decode cL_law 388 = .ok (.iconst 1, 1) := by decide +kernel
theorem dL_law_389 : decode cL_law 389 = .ok (.iadd, 1) := by decide +kernel
theorem dL_law_390 : decode cL_law 390 = .ok (.iaload, 1) := by decide +kernel
theorem dL_law_391 : decode cL_law 391 = .ok (.invokevirtual 50, 3) := by decide +kernel
theorem dL_law_394 : decode cL_law 394 = .ok (.aload_n 2, 1) := by decide +kernel
theorem dL_law_395 : decode cL_law 395 = .ok (.aload_n 0, 1) := by decide +kernel
theorem dL_law_396 : decode cL_law 396 = .ok (.iload_n 3, 1) := by decide +kernel
theorem dL_law_397 : decode cL_law 397 = .ok (.iconst 1, 1) := by decide +kernel
theorem dL_law_398 : decode cL_law 398 = .ok (.iadd, 1) := by decide +kernel
theorem dL_law_399 : decode cL_law 399 = .ok (.iaload, 1) := by decide +kernel
theorem dL_law_400 : decode cL_law 400 = .ok (.invokevirtual 53, 3) := by decide +kernel
theorem dL_law_403 : decode cL_law 403 = .ok (.if_icmp .eq 176, 3) := by decide +kernel
theorem dL_law_406 : decode cL_law 406 = .ok (.iconst 0, 1) := by decide +kernel
theorem dL_law_407 : decode cL_law 407 = .ok (.ireturn, 1) := by decide +kernel
theorem dL_law_408 : decode cL_law 408 = .ok (.aload_n 1, 1) := by decide +kernel
theorem dL_law_409 : decode cL_law 409 = .ok (.aload_n 0, 1) := by decide +kernel
theorem dL_law_410 : decode cL_law 410 = .ok (.iload_n 3, 1) := by decide +kernel
theorem dL_law_411 : decode cL_law 411 = .ok (.iconst 1, 1) := by decide +kernel
theorem dL_law_412 : decode cL_law 412 = .ok (.iadd, 1) := by decide +kernel
theorem dL_law_413 : decode cL_law 413 = .ok (.iaload, 1) := by decide +kernel
theorem dL_law_414 : decode cL_law 414 = .ok (.invokevirtual 54, 3) := by decide +kernel
theorem dL_law_417 : decode cL_law 417 = .ok (.aload_n 2, 1) := by decide +kernel
theorem dL_law_418 : decode cL_law 418 = .ok (.aload_n 0, 1) := by decide +kernel
theorem dL_law_419 : decode cL_law 419 = .ok (.iload_n 3, 1) := by decide +kernel
theorem dL_law_420 : decode cL_law 420 = .ok (.iconst 1, 1) := by decide +kernel
theorem dL_law_421 : decode cL_law 421 = .ok (.iadd, 1) := by decide +kernel
theorem dL_law_422 : decode cL_law 422 = .ok (.iaload, 1) := by decide +kernel
theorem dL_law_423 : decode cL_law 423 = .ok (.invokevirtual 57, 3) := by decide +kernel
theorem dL_law_426 : decode cL_law 426 = .ok (.if_icmp .eq 153, 3) := by decide +kernel
theorem dL_law_429 : decode cL_law 429 = .ok (.iconst 0, 1) := by decide +kernel
theorem dL_law_430 : decode cL_law 430 = .ok (.ireturn, 1) := by decide +kernel
theorem dL_law_431 : decode cL_law 431 = .ok (.aload_n 1, 1) := by decide +kernel
theorem dL_law_432 : decode cL_law 432 = .ok (.aload_n 0, 1) := by decide +kernel
theorem dL_law_433 : decode cL_law 433 = .ok (.iload_n 3, 1) := by decide +kernel
theorem dL_law_434 : decode cL_law 434 = .ok (.iconst 1, 1) := by decide +kernel
theorem dL_law_435 : decode cL_law 435 = .ok (.iadd, 1) := by decide +kernel
theorem dL_law_436 : decode cL_law 436 = .ok (.iaload, 1) := by decide +kernel
theorem dL_law_437 : decode cL_law 437 = .ok (.aload_n 0, 1) := by decide +kernel
theorem dL_law_438 : decode cL_law 438 = .ok (.iload_n 3, 1) := by decide +kernel
theorem dL_law_439 : decode cL_law 439 = .ok (.iconst 2, 1) := by decide +kernel
theorem dL_law_440 : decode cL_law 440 = .ok (.iadd, 1) := by decide +kernel
theorem dL_law_441 : decode cL_law 441 = .ok (.iaload, 1) := by decide +kernel
theorem dL_law_442 : decode cL_law 442 = .ok (.aload_n 0, 1) := by decide +kernel
theorem dL_law_443 : decode cL_law 443 = .ok (.iload_n 3, 1) := by decide +kernel
theorem dL_law_444 : decode cL_law 444 = .ok (.iconst 3, 1) := by decide +kernel
theorem dL_law_445 : decode cL_law 445 = .ok (.iadd, 1) := by decide +kernel
theorem dL_law_446 : decode cL_law 446 = .ok (.iaload, 1) := by decide +kernel
theorem dL_law_447 : decode cL_law 447 = .ok (.i2l, 1) := by decide +kernel
theorem dL_law_448 : decode cL_law 448 = .ok (.bipush 32, 2) := by decide +kernel
theorem dL_law_450 : decode cL_law 450 = .ok (.lshl, 1) := by decide +kernel
theorem dL_law_451 : decode cL_law 451 = .ok (.aload_n 0, 1) := by decide +kernel
theorem dL_law_452 : decode cL_law 452 = .ok (.iload_n 3, 1) := by decide +kernel
theorem dL_law_453 : decode cL_law 453 = .ok (.iconst 4, 1) := by decide +kernel
theorem dL_law_454 : decode cL_law 454 = .ok (.iadd, 1) := by decide +kernel
theorem dL_law_455 : decode cL_law 455 = .ok (.iaload, 1) := by decide +kernel
theorem dL_law_456 : decode cL_law 456 = .ok (.i2l, 1) := by decide +kernel
theorem dL_law_457 : decode cL_law 457 = .ok (.ldc2_w 13, 3) := by decide +kernel
theorem dL_law_460 : decode cL_law 460 = .ok (.land, 1) := by decide +kernel
theorem dL_law_461 : decode cL_law 461 = .ok (.lor, 1) := by decide +kernel
theorem dL_law_462 : decode cL_law 462 = .ok (.invokevirtual 58, 3) := by decide +kernel
theorem dL_law_465 : decode cL_law 465 = .ok (.aload_n 2, 1) := by decide +kernel
theorem dL_law_466 : decode cL_law 466 = .ok (.aload_n 0, 1) := by decide +kernel
theorem dL_law_467 : decode cL_law 467 = .ok (.iload_n 3, 1) := by decide +kernel
theorem dL_law_468 : decode cL_law 468 = .ok (.iconst 1, 1) := by decide +kernel
theorem dL_law_469 : decode cL_law 469 = .ok (.iadd, 1) := by decide +kernel
theorem dL_law_470 : decode cL_law 470 = .ok (.iaload, 1) := by decide +kernel
theorem dL_law_471 : decode cL_law 471 = .ok (.aload_n 0, 1) := by decide +kernel
theorem dL_law_472 : decode cL_law 472 = .ok (.iload_n 3, 1) := by decide +kernel
theorem dL_law_473 : decode cL_law 473 = .ok (.iconst 2, 1) := by decide +kernel
theorem dL_law_474 : decode cL_law 474 = .ok (.iadd, 1) := by decide +kernel
theorem dL_law_475 : decode cL_law 475 = .ok (.iaload, 1) := by decide +kernel
theorem dL_law_476 : decode cL_law 476 = .ok (.aload_n 0, 1) := by decide +kernel
theorem dL_law_477 : decode cL_law 477 = .ok (.iload_n 3, 1) := by decide +kernel
theorem dL_law_478 : decode cL_law 478 = .ok (.iconst 3, 1) := by decide +kernel
theorem dL_law_479 : decode cL_law 479 = .ok (.iadd, 1) := by decide +kernel
theorem dL_law_480 : decode cL_law 480 = .ok (.iaload, 1) := by decide +kernel
theorem dL_law_481 : decode cL_law 481 = .ok (.i2l, 1) := by decide +kernel
theorem dL_law_482 : decode cL_law 482 = .ok (.bipush 32, 2) := by decide +kernel
theorem dL_law_484 : decode cL_law 484 = .ok (.lshl, 1) := by decide +kernel
theorem dL_law_485 : decode cL_law 485 = .ok (.aload_n 0, 1) := by decide +kernel
theorem dL_law_486 : decode cL_law 486 = .ok (.iload_n 3, 1) := by decide +kernel
theorem dL_law_487 : decode cL_law 487 = .ok (.iconst 4, 1) := by decide +kernel
theorem dL_law_488 : decode cL_law 488 = .ok (.iadd, 1) := by decide +kernel
theorem dL_law_489 : decode cL_law 489 = .ok (.iaload, 1) := by decide +kernel
theorem dL_law_490 : decode cL_law 490 = .ok (.i2l, 1) := by decide +kernel
theorem dL_law_491 : decode cL_law 491 = .ok (.ldc2_w 13, 3) := by decide +kernel
theorem dL_law_494 : decode cL_law 494 = .ok (.land, 1) := by decide +kernel
theorem dL_law_495 : decode cL_law 495 = .ok (.lor, 1) := by decide +kernel
theorem dL_law_496 : decode cL_law 496 = .ok (.invokevirtual 61, 3) := by decide +kernel
theorem dL_law_499 : decode cL_law 499 = .ok (.lcmp, 1) := by decide +kernel
theorem dL_law_500 : decode cL_law 500 = .ok (.ifCond .eq 79, 3) := by decide +kernel
theorem dL_law_503 : decode cL_law 503 = .ok (.iconst 0, 1) := by decide +kernel
theorem dL_law_504 : decode cL_law 504 = .ok (.ireturn, 1) := by decide +kernel
theorem dL_law_505 : decode cL_law 505 = .ok (.aload_n 1, 1) := by decide +kernel
theorem dL_law_506 : decode cL_law 506 = .ok (.aload_n 0, 1) := by decide +kernel
theorem dL_law_507 : decode cL_law 507 = .ok (.iload_n 3, 1) := by decide +kernel
theorem dL_law_508 : decode cL_law 508 = .ok (.iconst 1, 1) := by decide +kernel
theorem dL_law_509 : decode cL_law 509 = .ok (.iadd, 1) := by decide +kernel
theorem dL_law_510 : decode cL_law 510 = .ok (.iaload, 1) := by decide +kernel
theorem dL_law_511 : decode cL_law 511 = .ok (.aload_n 0, 1) := by decide +kernel
theorem dL_law_512 : decode cL_law 512 = .ok (.iload_n 3, 1) := by decide +kernel
theorem dL_law_513 : decode cL_law 513 = .ok (.iconst 2, 1) := by decide +kernel
theorem dL_law_514 : decode cL_law 514 = .ok (.iadd, 1) := by decide +kernel
theorem dL_law_515 : decode cL_law 515 = .ok (.iaload, 1) := by decide +kernel
theorem dL_law_516 : decode cL_law 516 = .ok (.aload_n 0, 1) := by decide +kernel
theorem dL_law_517 : decode cL_law 517 = .ok (.iload_n 3, 1) := by decide +kernel
theorem dL_law_518 : decode cL_law 518 = .ok (.iconst 3, 1) := by decide +kernel
theorem dL_law_519 : decode cL_law 519 = .ok (.iadd, 1) := by decide +kernel
theorem dL_law_520 : decode cL_law 520 = .ok (.iaload, 1) := by decide +kernel
theorem dL_law_521 : decode cL_law 521 = .ok (.i2l, 1) := by decide +kernel
theorem dL_law_522 : decode cL_law 522 = .ok (.bipush 32, 2) := by decide +kernel
theorem dL_law_524 : decode cL_law 524 = .ok (.lshl, 1) := by decide +kernel
theorem dL_law_525 : decode cL_law 525 = .ok (.aload_n 0, 1) := by decide +kernel
theorem dL_law_526 : decode cL_law 526 = .ok (.iload_n 3, 1) := by decide +kernel
theorem dL_law_527 : decode cL_law 527 = .ok (.iconst 4, 1) := by decide +kernel
theorem dL_law_528 : decode cL_law 528 = .ok (.iadd, 1) := by decide +kernel
theorem dL_law_529 : decode cL_law 529 = .ok (.iaload, 1) := by decide +kernel
theorem dL_law_530 : decode cL_law 530 = .ok (.i2l, 1) := by decide +kernel
theorem dL_law_531 : decode cL_law 531 = .ok (.ldc2_w 13, 3) := by decide +kernel
theorem dL_law_534 : decode cL_law 534 = .ok (.land, 1) := by decide +kernel
theorem dL_law_535 : decode cL_law 535 = .ok (.lor, 1) := by decide +kernel
theorem dL_law_536 : decode cL_law 536 = .ok (.invokevirtual 62, 3) := by decide +kernel
theorem dL_law_539 : decode cL_law 539 = .ok (.aload_n 2, 1) := by decide +kernel
theorem dL_law_540 : decode cL_law 540 = .ok (.aload_n 0, 1) := by decide +kernel
theorem dL_law_541 : decode cL_law 541 = .ok (.iload_n 3, 1) := by decide +kernel
theorem dL_law_542 : decode cL_law 542 = .ok (.iconst 1, 1) := by decide +kernel
theorem dL_law_543 : decode cL_law 543 = .ok (.iadd, 1) := by decide +kernel
theorem dL_law_544 : decode cL_law 544 = .ok (.iaload, 1) := by decide +kernel
theorem dL_law_545 : decode cL_law 545 = .ok (.aload_n 0, 1) := by decide +kernel
theorem dL_law_546 : decode cL_law 546 = .ok (.iload_n 3, 1) := by decide +kernel
theorem dL_law_547 : decode cL_law 547 = .ok (.iconst 2, 1) := by decide +kernel
theorem dL_law_548 : decode cL_law 548 = .ok (.iadd, 1) := by decide +kernel
theorem dL_law_549 : decode cL_law 549 = .ok (.iaload, 1) := by decide +kernel
theorem dL_law_550 : decode cL_law 550 = .ok (.aload_n 0, 1) := by decide +kernel
theorem dL_law_551 : decode cL_law 551 = .ok (.iload_n 3, 1) := by decide +kernel
theorem dL_law_552 : decode cL_law 552 = .ok (.iconst 3, 1) := by decide +kernel
theorem dL_law_553 : decode cL_law 553 = .ok (.iadd, 1) := by decide +kernel
theorem dL_law_554 : decode cL_law 554 = .ok (.iaload, 1) := by decide +kernel
theorem dL_law_555 : decode cL_law 555 = .ok (.i2l, 1) := by decide +kernel
theorem dL_law_556 : decode cL_law 556 = .ok (.bipush 32, 2) := by decide +kernel
theorem dL_law_558 : decode cL_law 558 = .ok (.lshl, 1) := by decide +kernel
theorem dL_law_559 : decode cL_law 559 = .ok (.aload_n 0, 1) := by decide +kernel
theorem dL_law_560 : decode cL_law 560 = .ok (.iload_n 3, 1) := by decide +kernel
theorem dL_law_561 : decode cL_law 561 = .ok (.iconst 4, 1) := by decide +kernel
theorem dL_law_562 : decode cL_law 562 = .ok (.iadd, 1) := by decide +kernel
theorem dL_law_563 : decode cL_law 563 = .ok (.iaload, 1) := by decide +kernel
theorem dL_law_564 : decode cL_law 564 = .ok (.i2l, 1) := by decide +kernel
theorem dL_law_565 : decode cL_law 565 = .ok (.ldc2_w 13, 3) := by decide +kernel
theorem dL_law_568 : decode cL_law 568 = .ok (.land, 1) := by decide +kernel
theorem dL_law_569 : decode cL_law 569 = .ok (.lor, 1) := by decide +kernel
theorem dL_law_570 : decode cL_law 570 = .ok (.invokevirtual 65, 3) := by decide +kernel
theorem dL_law_573 : decode cL_law 573 = .ok (.lcmp, 1) := by decide +kernel
theorem dL_law_574 : decode cL_law 574 = .ok (.ifCond .eq 5, 3) := by decide +kernel
theorem dL_law_577 : decode cL_law 577 = .ok (.iconst 0, 1) := by decide +kernel
theorem dL_law_578 : decode cL_law 578 = .ok (.ireturn, 1) := by decide +kernel
theorem dL_law_579 : decode cL_law 579 = .ok (.iinc 3 5, 3) := by decide +kernel
theorem dL_law_582 : decode cL_law 582 = .ok (.goto (-564), 3) := by decide +kernel
theorem dL_law_585 : decode cL_law 585 = .ok (.iconst 1, 1) := by decide +kernel
theorem dL_law_586 : decode cL_law 586 = .ok (.ireturn, 1) := by decide +kernel
end
section
abbrev XS : Type := (Nat → Int32) × (Nat → Int32) × (Nat → Int32) × (Nat → Int64) × (Nat → Int32) × Int32 × Int64 × Int64 × Int64 × Int64 × Int32 × Int32 × Int32 × Int64
/-- the cells of a PostDesk2 in the state u -/
abbrev xw (ad : Nat → Nat) (cd : Nat → ClassId) (u : XS) : va_W := [(ad 0, .inr (0, [.ref (ad 1), .ref (ad 2), .ref (ad 3), .ref (ad 4), .ref (ad 5), .int u.2.2.2.2.2.1, .long u.2.2.2.2.2.2.1, .long u.2.2.2.2.2.2.2.1, .long u.2.2.2.2.2.2.2.2.1, .long u.2.2.2.2.2.2.2.2.2.1, .int u.2.2.2.2.2.2.2.2.2.2.1, .int u.2.2.2.2.2.2.2.2.2.2.2.1, .int u.2.2.2.2.2.2.2.2.2.2.2.2.1, .long u.2.2.2.2.2.2.2.2.2.2.2.2.2])), (ad 1, .inl (cd 1, 10, .inl u.1)), (ad 2, .inl (cd 2, 10, .inl u.2.1)), (ad 3, .inl (cd 3, 1000, .inl u.2.2.1)), (ad 4, .inl (cd 4, 20, .inr (.inl u.2.2.2.1))), (ad 5, .inl (cd 5, 20, .inl u.2.2.2.2.1))]
abbrev xt (cd : Nat → ClassId) : List (ClassId × FieldType) := [(cd 1, .int), (cd 2, .int), (cd 3, .boolean), (cd 4, .long), (cd 5, .int)]
abbrev xat (D : va_G) (ad : Nat → Nat) (cd : Nat → ClassId) (A : Nat → Prop) (u : XS) (t : State) : Prop := va_P D vwCl (xw ad cd u) t.heap ∧ va_K D vwCl (xt cd) t ∧ va_D A (xw ad cd u)
abbrev xPc (D : va_G) (ad : Nat → Nat) (cd : Nat → ClassId) (u : XS) (sz : Nat) (As : List Value) : Array Value → State → Prop := va_Pc (.ref (ad 0) :: As) (fun U => U.heap.size = sz ∧ va_P D vwCl (xw ad cd u) U.heap ∧ va_K D vwCl (xt cd) U ∧ va_D (fun _ => True) (xw ad cd u))
abbrev xPr (D : va_G) (ad : Nat → Nat) (cd : Nat → ClassId) (u : XS) (As : List Value) : Array Value → State → Prop := va_Pc (.ref (ad 0) :: As) (fun U => va_P D vwCl (xw ad cd u) U.heap ∧ va_K D vwCl (xt cd) U)
abbrev YS : Type := (Nat → Int64) × Int32 × (Nat → Int64) × (Nat → Int32) × (Nat → Int32) × (Nat → Int32) × Int64 × Int64 × Int64 × Int32 × Int32 × Int32 × Int64
/-- the cells of a PostDesk2Model in the state u -/
abbrev yw (ad : Nat → Nat) (cd : Nat → ClassId) (u : YS) : va_W := [(ad 0, .inr (1, [.ref (ad 1), .int u.2.1, .ref (ad 2), .ref (ad 3), .ref (ad 4), .ref (ad 5), .long u.2.2.2.2.2.2.1, .long u.2.2.2.2.2.2.2.1, .long u.2.2.2.2.2.2.2.2.1, .int u.2.2.2.2.2.2.2.2.2.1, .int u.2.2.2.2.2.2.2.2.2.2.1, .int u.2.2.2.2.2.2.2.2.2.2.2.1, .long u.2.2.2.2.2.2.2.2.2.2.2.2])), (ad 1, .inl (cd 1, 40, .inr (.inl u.1))), (ad 2, .inl (cd 2, 20, .inr (.inl u.2.2.1))), (ad 3, .inl (cd 3, 20, .inl u.2.2.2.1)), (ad 4, .inl (cd 4, 10, .inl u.2.2.2.2.1)), (ad 5, .inl (cd 5, 1000, .inl u.2.2.2.2.2.1))]
abbrev yt (cd : Nat → ClassId) : List (ClassId × FieldType) := [(cd 1, .long), (cd 2, .long), (cd 3, .int), (cd 4, .int), (cd 5, .boolean)]
abbrev yat (D : va_G) (ad : Nat → Nat) (cd : Nat → ClassId) (A : Nat → Prop) (u : YS) (t : State) : Prop := va_P D vwCl (yw ad cd u) t.heap ∧ va_K D vwCl (yt cd) t ∧ va_D A (yw ad cd u)
abbrev yPc (D : va_G) (ad : Nat → Nat) (cd : Nat → ClassId) (u : YS) (sz : Nat) (As : List Value) : Array Value → State → Prop := va_Pc (.ref (ad 0) :: As) (fun U => U.heap.size = sz ∧ va_P D vwCl (yw ad cd u) U.heap ∧ va_K D vwCl (yt cd) U ∧ va_D (fun _ => True) (yw ad cd u))
abbrev yPr (D : va_G) (ad : Nat → Nat) (cd : Nat → ClassId) (u : YS) (As : List Value) : Array Value → State → Prop := va_Pc (.ref (ad 0) :: As) (fun U => va_P D vwCl (yw ad cd u) U.heap ∧ va_K D vwCl (yt cd) U)
/-- what the first n numbers collected come to -/
def dig (f : Nat → Int64) : Nat → Int64
  | 0 => 0
  | n + 1 => 31 * dig f n + f n
/-- how many of the first m places of kind k hold something -/
def cnt (f : Nat → Int32) (k : Nat) : Nat → Nat
  | 0 => 0
  | m + 1 => cnt f k m + (if f (100 * k + m) = 0 then 0 else 1)
end
section
theorem sw_out8 {x : Int32} (h0 : ¬ x = 0) (h1 : ¬ x = 1) (h2 : ¬ x = 2) (h3 : ¬ x = 3) (h4 : ¬ x = 4) (h5 : ¬ x = 5) (h6 : ¬ x = 6) (h7 : ¬ x = 7) : x.toInt < 0 ∨ 7 < x.toInt := by
  have g0 := lv_neT (a := 0) h0 (by decide)
  have g1 := lv_neT (a := 1) h1 (by decide)
  have g2 := lv_neT (a := 2) h2 (by decide)
  have g3 := lv_neT (a := 3) h3 (by decide)
  have g4 := lv_neT (a := 4) h4 (by decide)
  have g5 := lv_neT (a := 5) h5 (by decide)
  have g6 := lv_neT (a := 6) h6 (by decide)
  have g7 := lv_neT (a := 7) h7 (by decide)
  omega
theorem sw_out11 {x : Int32} (h0 : ¬ x = 0) (h1 : ¬ x = 1) (h2 : ¬ x = 2) (h3 : ¬ x = 3) (h4 : ¬ x = 4) (h5 : ¬ x = 5) (h6 : ¬ x = 6) (h7 : ¬ x = 7) (h8 : ¬ x = 8) (h9 : ¬ x = 9) (h10 : ¬ x = 10) : x.toInt < 0 ∨ 10 < x.toInt := by
  have g0 := lv_neT (a := 0) h0 (by decide)
  have g1 := lv_neT (a := 1) h1 (by decide)
  have g2 := lv_neT (a := 2) h2 (by decide)
  have g3 := lv_neT (a := 3) h3 (by decide)
  have g4 := lv_neT (a := 4) h4 (by decide)
  have g5 := lv_neT (a := 5) h5 (by decide)
  have g6 := lv_neT (a := 6) h6 (by decide)
  have g7 := lv_neT (a := 7) h7 (by decide)
  have g8 := lv_neT (a := 8) h8 (by decide)
  have g9 := lv_neT (a := 9) h9 (by decide)
  have g10 := lv_neT (a := 10) h10 (by decide)
  omega
theorem sc_in {i L : Nat} (k : Nat) {x : Int32} (hx : x = nI k) (h : i + k < L) (hL : L ≤ 2560) : vp_in (nI i + x) L := by
  subst hx
  rw [nI_add]
  exact vp_in_nI h (by omega)
theorem sc_next (i : Nat) : nI i + Int32.ofInt 5 = nI (i + 5) := by
  rw [show Int32.ofInt 5 = nI 5 from by decide, nI_add]
theorem sc_more {i L : Nat} (hi : i ≤ L) (hL : L ≤ 2560) (h : ¬ Int32.ofNat L - 5 < nI i) : i + 5 ≤ L := by
  rw [show Int32.ofNat L = nI L from rfl, show (5 : Int32) = nI 5 from rfl, Int32.lt_iff_toInt_lt, pk_sub_toInt (by omega) (by omega), nI_toInt (by omega)] at h
  omega
def xf_isCall (p0 : Int32) : Int32 := if p0 < 0 then (0) else (if 20 ≤ p0 then (0) else (1))
set_option maxHeartbeats 4000000 in
set_option maxRecDepth 100000 in
theorem xk_isCall (l : Launch) (p0 : Int32)  : Met l yX0_isCall wsX0_isCall ({ frames := 0, cells := 0, slots := 0, locals := 0 }) (va_Pc [.int p0] (fun _ => True)) (vp_Si (fun r => r = xf_isCall p0)) 0 0 (fun _ => False) := by
  refine Met.ofW (cc := cX0_isCall) (maxL := 1) (ret := (some .boolean)) (by decide) rfl ?_
  intro p e s m args below meth c s₁ B hml hv
  obtain ⟨rfl, -⟩ := hv
  have hx := B.exec
  have hb := B.bytes
  have hr := B.returns
  have hts := atoms_spec (ws := wsX0_isCall) B.pre
  have hown : s.vm.findClass RX0 = some m.cls := findClass_of_methodNamed B.named
  have hlocks := B.notSynchronized
  have hl := lv_entry ([.int p0]) (n := 1) (Nat.le_of_ble_eq_true rfl)
  rw [lg_entry_eq]
  generalize (lg_sl ([.int p0]) ++ List.replicate (1 - (lg_sl ([.int p0])).length) Slot.unset).toArray = ls at hl ⊢
  have hl : lv_has ls 1 [(0, .int p0)] := hl
  refine lv_iload_n hx hb dX0_isCall_0 rfl (lv_at hl 0 rfl) ?_
  refine lv_if_lt (tgt := 14) hx hb dX0_isCall_1 (by decide) (fun c_1 => ?_) (fun c_1 => ?_)
  · refine lv_iconst (v := 0) hx hb dX0_isCall_14 (by decide) ?_
    exact W.zret (v := 0) (ty := .boolean) hx hb hr rfl (fun t ht hW => ⟨0, rfl, (by simp only [xf_isCall, if_pos c_1]), ht⟩) (fun _ h => by cases h) dX0_isCall_15
  · refine lv_iload_n hx hb dX0_isCall_4 rfl (lv_at hl 0 rfl) ?_
    refine lv_bipush (v := 20) hx hb dX0_isCall_5 (by decide) ?_
    refine lv_icmp_ge (tgt := 14) hx hb dX0_isCall_7 (by decide) (fun c_7 => ?_) (fun c_7 => ?_)
    · refine lv_iconst (v := 0) hx hb dX0_isCall_14 (by decide) ?_
      exact W.zret (v := 0) (ty := .boolean) hx hb hr rfl (fun t ht hW => ⟨0, rfl, (by simp only [xf_isCall, if_neg c_1, if_pos c_7]), ht⟩) (fun _ h => by cases h) dX0_isCall_15
    · refine lv_iconst (v := 1) hx hb dX0_isCall_10 (by decide) ?_
      refine lv_goto (tgt := 15) hx hb dX0_isCall_11 (by decide) ?_
      exact W.zret (v := 1) (ty := .boolean) hx hb hr rfl (fun t ht hW => ⟨1, rfl, (by simp only [xf_isCall, if_neg c_1, if_neg c_7]), ht⟩) (fun _ h => by cases h) dX0_isCall_15
def xf_isKind (p0 : Int32) : Int32 := if p0 < 0 then (0) else (if 10 ≤ p0 then (0) else (1))
set_option maxHeartbeats 4000000 in
set_option maxRecDepth 100000 in
theorem xk_isKind (l : Launch) (p0 : Int32)  : Met l yX0_isKind wsX0_isKind ({ frames := 0, cells := 0, slots := 0, locals := 0 }) (va_Pc [.int p0] (fun _ => True)) (vp_Si (fun r => r = xf_isKind p0)) 0 0 (fun _ => False) := by
  refine Met.ofW (cc := cX0_isKind) (maxL := 1) (ret := (some .boolean)) (by decide) rfl ?_
  intro p e s m args below meth c s₁ B hml hv
  obtain ⟨rfl, -⟩ := hv
  have hx := B.exec
  have hb := B.bytes
  have hr := B.returns
  have hts := atoms_spec (ws := wsX0_isKind) B.pre
  have hown : s.vm.findClass RX0 = some m.cls := findClass_of_methodNamed B.named
  have hlocks := B.notSynchronized
  have hl := lv_entry ([.int p0]) (n := 1) (Nat.le_of_ble_eq_true rfl)
  rw [lg_entry_eq]
  generalize (lg_sl ([.int p0]) ++ List.replicate (1 - (lg_sl ([.int p0])).length) Slot.unset).toArray = ls at hl ⊢
  have hl : lv_has ls 1 [(0, .int p0)] := hl
  refine lv_iload_n hx hb dX0_isKind_0 rfl (lv_at hl 0 rfl) ?_
  refine lv_if_lt (tgt := 14) hx hb dX0_isKind_1 (by decide) (fun c_1 => ?_) (fun c_1 => ?_)
  · refine lv_iconst (v := 0) hx hb dX0_isKind_14 (by decide) ?_
    exact W.zret (v := 0) (ty := .boolean) hx hb hr rfl (fun t ht hW => ⟨0, rfl, (by simp only [xf_isKind, if_pos c_1]), ht⟩) (fun _ h => by cases h) dX0_isKind_15
  · refine lv_iload_n hx hb dX0_isKind_4 rfl (lv_at hl 0 rfl) ?_
    refine lv_bipush (v := 10) hx hb dX0_isKind_5 (by decide) ?_
    refine lv_icmp_ge (tgt := 14) hx hb dX0_isKind_7 (by decide) (fun c_7 => ?_) (fun c_7 => ?_)
    · refine lv_iconst (v := 0) hx hb dX0_isKind_14 (by decide) ?_
      exact W.zret (v := 0) (ty := .boolean) hx hb hr rfl (fun t ht hW => ⟨0, rfl, (by simp only [xf_isKind, if_neg c_1, if_pos c_7]), ht⟩) (fun _ h => by cases h) dX0_isKind_15
    · refine lv_iconst (v := 1) hx hb dX0_isKind_10 (by decide) ?_
      refine lv_goto (tgt := 15) hx hb dX0_isKind_11 (by decide) ?_
      exact W.zret (v := 1) (ty := .boolean) hx hb hr rfl (fun t ht hW => ⟨1, rfl, (by simp only [xf_isKind, if_neg c_1, if_neg c_7]), ht⟩) (fun _ h => by cases h) dX0_isKind_15
theorem xkc_in {c : Int32} (h : ¬ xf_isCall c = 0) : vp_in c 20 := by
  rw [vp_in_iff]
  unfold xf_isCall at h
  split at h
  · exact absurd rfl h
  · rename_i h1
    split at h
    · exact absurd rfl h
    · rename_i h2
      rw [Int32.lt_iff_toInt_lt] at h1
      rw [Int32.le_iff_toInt_le] at h2
      have e0 : (0 : Int32).toInt = 0 := by decide
      have e1 : (20 : Int32).toInt = 20 := by decide
      omega
theorem xkk_in {c : Int32} (h : ¬ xf_isKind c = 0) : vp_in c 10 := by
  rw [vp_in_iff]
  unfold xf_isKind at h
  split at h
  · exact absurd rfl h
  · rename_i h1
    split at h
    · exact absurd rfl h
    · rename_i h2
      rw [Int32.lt_iff_toInt_lt] at h1
      rw [Int32.le_iff_toInt_le] at h2
      have e0 : (0 : Int32).toInt = 0 := by decide
      have e1 : (10 : Int32).toInt = 10 := by decide
      omega
theorem xkk_lt {c : Int32} (h : ¬ xf_isKind c = 0) : c.toNatClampNeg < 10 := by
  obtain ⟨j, hj, rfl⟩ := vp_in_of (xkk_in h) (by decide)
  rw [nI_clamp (by omega)]
  exact hj
theorem xmk_in {f : Nat → Int32} {k : Int32} (hk : ¬ xf_isKind k = 0) (h0 : 0 ≤ f k.toNatClampNeg) (h9 : f k.toNatClampNeg < 99) : vp_in (k * 100 + upd f k.toNatClampNeg (f k.toNatClampNeg + 1) k.toNatClampNeg) 1000 := by
  rw [pk_us]
  obtain ⟨j, hj, e⟩ := vp_in_of (xkk_in hk) (by decide)
  generalize f k.toNatClampNeg = v at h0 h9 ⊢
  subst e
  have hn : ¬ v < 0 := by
    rw [Int32.lt_iff_toInt_lt]
    rw [Int32.le_iff_toInt_le] at h0
    omega
  obtain ⟨i, hi, rfl⟩ := nI_of hn
  have h9' : i < 99 := by
    rw [show (99 : Int32) = nI 99 from rfl, nI_ltI hi (by decide)] at h9
    exact h9
  rw [show (100 : Int32) = nI 100 from rfl, pk_mul, nI_1, nI_add]
  exact vp_in_nI (by omega) (by decide)
def xf_placeOf (p0 : Int32) : Int32 := if 0 ≤ p0 then (if (xf_isKind (p0 / 1000)) = 0 then ((-1)) else (if (p0 - p0 / 1000 * 1000) < 1 then ((-1)) else (if (p0 - p0 / 1000 * 1000) ≤ 99 then ((((p0 / 1000) * 100) + (p0 - p0 / 1000 * 1000))) else ((-1))))) else ((-1))
set_option maxHeartbeats 4000000 in
set_option maxRecDepth 100000 in
theorem xk_placeOf (l : Launch) (p0 : Int32)  : Met l yX0_placeOf wsX0_placeOf ({ frames := 1, cells := 0, slots := 0, locals := 20 }) (va_Pc [.int p0] (fun _ => True)) (vp_Si (fun r => r = xf_placeOf p0)) 0 0 (fun _ => False) := by
  refine Met.ofW (cc := cX0_placeOf) (maxL := 3) (ret := (some .int)) (by decide) rfl ?_
  intro p e s m args below meth c s₁ B hml hv
  obtain ⟨rfl, -⟩ := hv
  have hx := B.exec
  have hb := B.bytes
  have hr := B.returns
  have hts := atoms_spec (ws := wsX0_placeOf) B.pre
  have hown : s.vm.findClass RX0 = some m.cls := findClass_of_methodNamed B.named
  have hlocks := B.notSynchronized
  have hl := lv_entry ([.int p0]) (n := 3) (Nat.le_of_ble_eq_true rfl)
  rw [lg_entry_eq]
  generalize (lg_sl ([.int p0]) ++ List.replicate (3 - (lg_sl ([.int p0])).length) Slot.unset).toArray = ls at hl ⊢
  have hl : lv_has ls 3 [(0, .int p0)] := hl
  refine lv_iload_n hx hb dX0_placeOf_0 rfl (lv_at hl 0 rfl) ?_
  refine lv_if_ge (tgt := 6) hx hb dX0_placeOf_1 (by decide) (fun c_1 => ?_) (fun c_1 => ?_)
  · refine lv_iload_n hx hb dX0_placeOf_6 rfl (lv_at hl 0 rfl) ?_
    refine lv_sipush (v := 1000) hx hb dX0_placeOf_7 (by decide) ?_
    refine lv_idiv hx hb dX0_placeOf_10 (by decide) ?_
    refine lv_istore_n (lv' := [(1, .int (p0 / 1000)), (0, .int p0)]) hx hb dX0_placeOf_11 rfl hl (by decide) rfl (fun ls hl => ?_)
    refine lv_iload_n hx hb dX0_placeOf_12 rfl (lv_at hl 1 rfl) ?_
    refine lv_sipush (v := 1000) hx hb dX0_placeOf_13 (by decide) ?_
    refine lv_irem hx hb dX0_placeOf_16 (by decide) ?_
    refine lv_istore_n (lv' := [(2, .int (p0 - p0 / 1000 * 1000)), (1, .int (p0 / 1000)), (0, .int p0)]) hx hb dX0_placeOf_17 rfl hl (by decide) rfl (fun ls hl => ?_)
    refine lv_iload_n hx hb dX0_placeOf_18 rfl (lv_at hl 1 rfl) ?_
    refine vp_callSi (W.runS (As := [.int (p0 / 1000)]) (rest := []) ⟨hx, hb, hml, hown, hts⟩ (xk_isKind l (p0 / 1000)) (va_cwS 1 hts gX0_placeOf_X0_isKind rfl rfl rfl (by decide +kernel) ⟨Nat.le_of_ble_eq_true rfl, Nat.le_of_ble_eq_true rfl⟩) ⟨fun a U g mk q => q, fun U hU hW => ⟨rfl, trivial⟩⟩ rfl rfl hl.1 rfl (lv_room (Nat.le_of_ble_eq_true rfl)) dX0_placeOf_19 ⟨Nat.zero_le _, Nat.zero_le _⟩) (fun r_19 hr_19 => ?_)
    subst hr_19
    refine lv_if_eq (tgt := 36) hx hb dX0_placeOf_22 (by decide) (fun c_22 => ?_) (fun c_22 => ?_)
    · refine lv_iconst (v := (-1)) hx hb dX0_placeOf_36 (by decide) ?_
      exact W.iret (v := (-1)) hx hb hr (fun t ht hW => ⟨(-1), rfl, (by simp only [xf_placeOf, if_pos c_1, if_pos c_22]), ht⟩) (fun _ h => by cases h) dX0_placeOf_37
    · refine lv_iload_n hx hb dX0_placeOf_25 rfl (lv_at hl 0 rfl) ?_
      refine lv_iconst (v := 1) hx hb dX0_placeOf_26 (by decide) ?_
      refine lv_icmp_lt (tgt := 36) hx hb dX0_placeOf_27 (by decide) (fun c_27 => ?_) (fun c_27 => ?_)
      · refine lv_iconst (v := (-1)) hx hb dX0_placeOf_36 (by decide) ?_
        exact W.iret (v := (-1)) hx hb hr (fun t ht hW => ⟨(-1), rfl, (by simp only [xf_placeOf, if_pos c_1, if_neg c_22, if_pos c_27]), ht⟩) (fun _ h => by cases h) dX0_placeOf_37
      · refine lv_iload_n hx hb dX0_placeOf_30 rfl (lv_at hl 0 rfl) ?_
        refine lv_bipush (v := 99) hx hb dX0_placeOf_31 (by decide) ?_
        refine lv_icmp_le (tgt := 38) hx hb dX0_placeOf_33 (by decide) (fun c_33 => ?_) (fun c_33 => ?_)
        · refine lv_iload_n hx hb dX0_placeOf_38 rfl (lv_at hl 1 rfl) ?_
          refine lv_bipush (v := 100) hx hb dX0_placeOf_39 (by decide) ?_
          refine lv_imul hx hb dX0_placeOf_41 ?_
          refine lv_iload_n hx hb dX0_placeOf_42 rfl (lv_at hl 0 rfl) ?_
          refine lv_iadd hx hb dX0_placeOf_43 ?_
          exact W.iret (v := (((p0 / 1000) * 100) + (p0 - p0 / 1000 * 1000))) hx hb hr (fun t ht hW => ⟨(((p0 / 1000) * 100) + (p0 - p0 / 1000 * 1000)), rfl, (by simp only [xf_placeOf, if_pos c_1, if_neg c_22, if_neg c_27, if_pos c_33]), ht⟩) (fun _ h => by cases h) dX0_placeOf_44
        · refine lv_iconst (v := (-1)) hx hb dX0_placeOf_36 (by decide) ?_
          exact W.iret (v := (-1)) hx hb hr (fun t ht hW => ⟨(-1), rfl, (by simp only [xf_placeOf, if_pos c_1, if_neg c_22, if_neg c_27, if_neg c_33]), ht⟩) (fun _ h => by cases h) dX0_placeOf_37
  · refine lv_iconst (v := (-1)) hx hb dX0_placeOf_4 (by decide) ?_
    exact W.iret (v := (-1)) hx hb hr (fun t ht hW => ⟨(-1), rfl, (by simp only [xf_placeOf, if_neg c_1]), ht⟩) (fun _ h => by cases h) dX0_placeOf_5
/-- a number's place, in naturals -/
theorem xpl_eq {a : Nat} (ha : a < 2 ^ 31) : xf_placeOf (nI a) = if a / 1000 < 10 ∧ 1 ≤ a % 1000 ∧ a % 1000 ≤ 99 then nI (a / 1000 * 100 + a % 1000) else (-1) := by
  have e0 : (0 : Int32) ≤ nI a := nI_pos' ha
  have ed : nI a / 1000 = nI (a / 1000) := pk_div (d := 1000) ha (by decide) (by decide)
  have er : nI a - nI (a / 1000) * 1000 = nI (a % 1000) := by
    have := pk_rem (d := 1000) ha (by decide) (by decide)
    rw [show nI 1000 = (1000 : Int32) from rfl, ed] at this
    exact this
  have hd : a / 1000 < 2 ^ 31 := by omega
  have hm : a % 1000 < 1000 := Nat.mod_lt _ (by decide)
  unfold xf_placeOf
  rw [if_pos e0, ed, er]
  have hk : xf_isKind (nI (a / 1000)) = if a / 1000 < 10 then 1 else 0 := by
    unfold xf_isKind
    rw [if_neg (nI_pos hd)]
    by_cases h : a / 1000 < 10
    · rw [if_pos h, if_neg]
      rw [show (10 : Int32) = nI 10 from rfl, nI_leI (by decide) hd]; omega
    · rw [if_neg h, if_pos]
      rw [show (10 : Int32) = nI 10 from rfl, nI_leI (by decide) hd]; omega
  rw [hk]
  by_cases h : a / 1000 < 10
  · rw [if_pos h, if_neg (by decide)]
    by_cases h1 : a % 1000 < 1
    · rw [if_pos (by rw [show (1 : Int32) = nI 1 from rfl, nI_ltI (by omega) (by decide)]; exact h1), if_neg (by omega)]
    · rw [if_neg (by rw [show (1 : Int32) = nI 1 from rfl, nI_ltI (by omega) (by decide)]; exact h1)]
      by_cases h2 : a % 1000 ≤ 99
      · rw [if_pos (by rw [show (99 : Int32) = nI 99 from rfl, nI_leI (by omega) (by decide)]; exact h2), if_pos (by omega), show (100 : Int32) = nI 100 from rfl, pk_mul, nI_add]
      · rw [if_neg (by rw [show (99 : Int32) = nI 99 from rfl, nI_leI (by omega) (by decide)]; exact h2), if_neg (by omega)]
  · rw [if_neg h, if_pos rfl, if_neg (by omega)]
theorem xpl_neg {n : Int32} (h : n < 0) : xf_placeOf n = (-1) := by
  unfold xf_placeOf
  rw [if_neg]
  rw [Int32.le_iff_toInt_le]
  rw [Int32.lt_iff_toInt_lt] at h
  omega
/-- a place that is one: of a number 1000 k + j, at 100 k + j -/
theorem xpl_of {n : Int32} (h : ¬ xf_placeOf n = (-1)) : ∃ k j : Nat, k < 10 ∧ 1 ≤ j ∧ j ≤ 99 ∧ n = nI (1000 * k + j) ∧ xf_placeOf n = nI (100 * k + j) := by
  by_cases hn : n < 0
  · exact absurd (xpl_neg hn) h
  · obtain ⟨a, ha, rfl⟩ := nI_of hn
    rw [xpl_eq ha] at h ⊢
    by_cases hc : a / 1000 < 10 ∧ 1 ≤ a % 1000 ∧ a % 1000 ≤ 99
    · refine ⟨a / 1000, a % 1000, hc.1, hc.2.1, hc.2.2, by rw [show 1000 * (a / 1000) + a % 1000 = a by omega], ?_⟩
      rw [if_pos hc, Nat.mul_comm]
    · rw [if_neg hc] at h
      exact absurd rfl h
theorem xpl_in {n : Int32} (h : ¬ xf_placeOf n = (-1)) : vp_in (xf_placeOf n) 1000 := by
  obtain ⟨k, j, hk, h1, h9, -, e⟩ := xpl_of h
  rw [e]
  exact vp_in_nI (by omega) (by decide)
theorem xpl_kd {n : Int32} (h : ¬ xf_placeOf n = (-1)) : vp_in (n / 1000) 10 := by
  obtain ⟨k, j, hk, h1, h9, e, -⟩ := xpl_of h
  rw [e, show (1000 : Int32) = nI 1000 from rfl, pk_div (by omega) (by decide) (by decide)]
  exact vp_in_nI (by omega) (by decide)
end
section
def xf_isThere (u : XS) (p1 : Int32) : Int32 := match u with
  | (_, _, x2, _, _, _, _, _, _, _, _, _, _, _) => if (xf_placeOf p1) = (-1) then (0) else (if (x2 ((xf_placeOf p1)).toNatClampNeg) = 0 then (0) else (1))
set_option maxHeartbeats 4000000 in
set_option maxRecDepth 100000 in
theorem xk_isThere (l : Launch) (D : va_G) (ad : Nat → Nat) (cd : Nat → ClassId) (u : XS) (p1 : Int32)  : Met l yX0_isThere wsX0_isThere ({ frames := 2, cells := 0, slots := 0, locals := 42 }) (xPr D ad cd u [.int p1]) (vp_Si (fun r => r = xf_isThere u p1)) 0 0 (fun _ => False) := by
  obtain ⟨x0, x1, x2, x3, x4, x5, x6, x7, x8, x9, x10, x11, x12, x13⟩ := u
  refine Met.ofW (cc := cX0_isThere) (maxL := 3) (ret := (some .boolean)) (by decide) rfl ?_
  intro p e s m args below meth c s₁ B hml hv
  obtain ⟨rfl, hP, hK⟩ := hv
  have hx := B.exec
  have hb := B.bytes
  have hr := B.returns
  have hts := atoms_spec (ws := wsX0_isThere) B.pre
  have hown : s.vm.findClass RX0 = some m.cls := findClass_of_methodNamed B.named
  have hlocks := B.notSynchronized
  have hP : va_P D vwCl (xw ad cd (x0, x1, x2, x3, x4, x5, x6, x7, x8, x9, x10, x11, x12, x13)) s.heap := hP
  have hl := lv_entry ([.ref (ad 0), .int p1]) (n := 3) (Nat.le_of_ble_eq_true rfl)
  rw [lg_entry_eq]
  generalize (lg_sl ([.ref (ad 0), .int p1]) ++ List.replicate (3 - (lg_sl ([.ref (ad 0), .int p1])).length) Slot.unset).toArray = ls at hl ⊢
  have hl : lv_has ls 3 [(0, .ref (ad 0)), (1, .int p1)] := hl
  refine lv_iload_n hx hb dX0_isThere_0 rfl (lv_at hl 1 rfl) ?_
  refine vp_callSi (W.runS (As := [.int p1]) (rest := []) ⟨hx, hb, hml, hown, hts⟩ (xk_placeOf l p1) (va_cwS 1 hts gX0_isThere_X0_placeOf rfl rfl rfl (by decide +kernel) ⟨Nat.le_of_ble_eq_true rfl, Nat.le_of_ble_eq_true rfl⟩) ⟨fun a U g mk q => q, fun U hU hW => ⟨rfl, trivial⟩⟩ rfl rfl hl.1 rfl (lv_room (Nat.le_of_ble_eq_true rfl)) dX0_isThere_1 ⟨Nat.zero_le _, Nat.zero_le _⟩) (fun r_1 hr_1 => ?_)
  subst hr_1
  refine lv_istore_n (lv' := [(2, .int (xf_placeOf p1)), (0, .ref (ad 0)), (1, .int p1)]) hx hb dX0_isThere_4 rfl hl (by decide) rfl (fun ls hl => ?_)
  refine lv_iload_n hx hb dX0_isThere_5 rfl (lv_at hl 0 rfl) ?_
  refine lv_iconst (v := (-1)) hx hb dX0_isThere_6 (by decide) ?_
  refine lv_icmp_eq (tgt := 23) hx hb dX0_isThere_7 (by decide) (fun c_7 => ?_) (fun c_7 => ?_)
  · refine lv_iconst (v := 0) hx hb dX0_isThere_23 (by decide) ?_
    exact W.zret (v := 0) (ty := .boolean) hx hb hr rfl (fun t ht hW => ⟨0, rfl, (by simp only [xf_isThere, if_pos c_7]), ht⟩) (fun _ h => by cases h) dX0_isThere_24
  · refine lv_aload_n hx hb dX0_isThere_10 rfl (lv_at hl 1 rfl) ?_
    refine va_get (D := D) (ci := 0) (v := .ref (ad 3)) (C := RX0) (T := TX0) (N := 14) hx hb hts (fun _ h => List.mem_cons_of_mem _ (List.mem_append_right _ h)) hown hK hP 0 rfl rfl 2 (by decide) (hts (.fieldLink RX0 16 "PostDesk2" "present" "[Z") (by decide +kernel)) (fun _ h9 => h9) rfl dX0_isThere_11 ?_
    refine lv_iload_n hx hb dX0_isThere_14 rfl (lv_at hl 0 rfl) ?_
    refine va_zald hx hb hK hP 3 2 rfl rfl (xpl_in c_7) dX0_isThere_15 ?_
    refine lv_if_eq (tgt := 23) hx hb dX0_isThere_16 (by decide) (fun c_16 => ?_) (fun c_16 => ?_)
    · refine lv_iconst (v := 0) hx hb dX0_isThere_23 (by decide) ?_
      exact W.zret (v := 0) (ty := .boolean) hx hb hr rfl (fun t ht hW => ⟨0, rfl, (by simp only [xf_isThere, if_neg c_7, if_pos c_16]), ht⟩) (fun _ h => by cases h) dX0_isThere_24
    · refine lv_iconst (v := 1) hx hb dX0_isThere_19 (by decide) ?_
      refine lv_goto (tgt := 24) hx hb dX0_isThere_20 (by decide) ?_
      exact W.zret (v := 1) (ty := .boolean) hx hb hr rfl (fun t ht hW => ⟨1, rfl, (by simp only [xf_isThere, if_neg c_7, if_neg c_16]), ht⟩) (fun _ h => by cases h) dX0_isThere_24
def xf_refusalOf (u : XS) (p1 : Int32) (p2 : Int32) : Int64 := match u with
  | (x0, x1, x2, x3, x4, x5, x6, x7, x8, x9, x10, x11, x12, x13) => if (xf_isCall p1) = 0 then ((-9000000000000000012)) else (if (xf_isThere (x0, x1, x2, x3, x4, x5, x6, x7, x8, x9, x10, x11, x12, x13) p2) = 0 then ((-9000000000000000011)) else (if (p2 / 1000) = (p1 - p1 / 10 * 10) then (if p1 < 10 then (0) else (if x5 = 0 then ((-9000000000000000013)) else (0))) else ((-9000000000000000011))))
set_option maxHeartbeats 4000000 in
set_option maxRecDepth 100000 in
theorem xk_refusalOf (l : Launch) (D : va_G) (ad : Nat → Nat) (cd : Nat → ClassId) (u : XS) (p1 : Int32) (p2 : Int32)  : Met l yX0_refusalOf wsX0_refusalOf ({ frames := 3, cells := 0, slots := 0, locals := 64 }) (xPr D ad cd u [.int p1, .int p2]) (vp_Sl (fun r => r = xf_refusalOf u p1 p2)) 0 0 (fun _ => False) := by
  obtain ⟨x0, x1, x2, x3, x4, x5, x6, x7, x8, x9, x10, x11, x12, x13⟩ := u
  refine Met.ofW (cc := cX0_refusalOf) (maxL := 3) (ret := (some .long)) (by decide) rfl ?_
  intro p e s m args below meth c s₁ B hml hv
  obtain ⟨rfl, hP, hK⟩ := hv
  have hx := B.exec
  have hb := B.bytes
  have hr := B.returns
  have hts := atoms_spec (ws := wsX0_refusalOf) B.pre
  have hown : s.vm.findClass RX0 = some m.cls := findClass_of_methodNamed B.named
  have hlocks := B.notSynchronized
  have hP : va_P D vwCl (xw ad cd (x0, x1, x2, x3, x4, x5, x6, x7, x8, x9, x10, x11, x12, x13)) s.heap := hP
  have hl := lv_entry ([.ref (ad 0), .int p1, .int p2]) (n := 3) (Nat.le_of_ble_eq_true rfl)
  rw [lg_entry_eq]
  generalize (lg_sl ([.ref (ad 0), .int p1, .int p2]) ++ List.replicate (3 - (lg_sl ([.ref (ad 0), .int p1, .int p2])).length) Slot.unset).toArray = ls at hl ⊢
  have hl : lv_has ls 3 [(0, .ref (ad 0)), (1, .int p1), (2, .int p2)] := hl
  refine lv_iload_n hx hb dX0_refusalOf_0 rfl (lv_at hl 1 rfl) ?_
  refine vp_callSi (W.runS (As := [.int p1]) (rest := []) ⟨hx, hb, hml, hown, hts⟩ (xk_isCall l p1) (va_cwS 1 hts gX0_refusalOf_X0_isCall rfl rfl rfl (by decide +kernel) ⟨Nat.le_of_ble_eq_true rfl, Nat.le_of_ble_eq_true rfl⟩) ⟨fun a U g mk q => q, fun U hU hW => ⟨rfl, trivial⟩⟩ rfl rfl hl.1 rfl (lv_room (Nat.le_of_ble_eq_true rfl)) dX0_refusalOf_1 ⟨Nat.zero_le _, Nat.zero_le _⟩) (fun r_1 hr_1 => ?_)
  subst hr_1
  refine lv_if_ne (tgt := 11) hx hb dX0_refusalOf_4 (by decide) (fun c_4 => ?_) (fun c_4 => ?_)
  · refine lv_aload_n hx hb dX0_refusalOf_11 rfl (lv_at hl 0 rfl) ?_
    refine lv_iload_n hx hb dX0_refusalOf_12 rfl (lv_at hl 2 rfl) ?_
    refine vp_callSi (W.runV (As := [.int p2]) (rest := []) ⟨hx, hb, hml, hown, hts⟩ (xk_isThere l D ad cd (x0, x1, x2, x3, x4, x5, x6, x7, x8, x9, x10, x11, x12, x13) p2) (cwV 1 hts gX0_refusalOf_X0_isThere rfl rfl rfl (by decide +kernel) ⟨Nat.le_of_ble_eq_true rfl, Nat.le_of_ble_eq_true rfl⟩) ⟨fun a U g mk q => ⟨q.1, q.2.1, va_K.moved (u := U) (U := U.calling g mk a) (Vm.Alike.refl U.vm) q.2.2⟩, va_recv hK hP (ci := 0) (q0 := 0) rfl rfl, fun U hU hW => ⟨rfl, by rw [hU]; exact hP, va_K.moved hW.alike hK⟩⟩ rfl rfl hl.1 rfl (lv_room (Nat.le_of_ble_eq_true rfl)) dX0_refusalOf_13 ⟨Nat.zero_le _, Nat.zero_le _⟩) (fun r_13 hr_13 => ?_)
    subst hr_13
    refine lv_if_eq (tgt := 31) hx hb dX0_refusalOf_16 (by decide) (fun c_16 => ?_) (fun c_16 => ?_)
    · refine lv_ldc2 (v := (-9000000000000000011)) hx hb hown (hts (.constantLong RX0 92 (-9000000000000000011)) (by decide +kernel)) dX0_refusalOf_31 ?_
      exact W.lret (v := (-9000000000000000011)) hx hb hr (fun t ht hW => ⟨(-9000000000000000011), rfl, (by simp only [xf_refusalOf, if_neg c_4, if_pos c_16]), ht⟩) (fun _ h => by cases h) dX0_refusalOf_34
    · refine lv_iload_n hx hb dX0_refusalOf_19 rfl (lv_at hl 2 rfl) ?_
      refine lv_sipush (v := 1000) hx hb dX0_refusalOf_20 (by decide) ?_
      refine lv_idiv hx hb dX0_refusalOf_23 (by decide) ?_
      refine lv_iload_n hx hb dX0_refusalOf_24 rfl (lv_at hl 1 rfl) ?_
      refine lv_bipush (v := 10) hx hb dX0_refusalOf_25 (by decide) ?_
      refine lv_irem hx hb dX0_refusalOf_27 (by decide) ?_
      refine lv_icmp_eq (tgt := 35) hx hb dX0_refusalOf_28 (by decide) (fun c_28 => ?_) (fun c_28 => ?_)
      · refine lv_iload_n hx hb dX0_refusalOf_35 rfl (lv_at hl 1 rfl) ?_
        refine lv_bipush (v := 10) hx hb dX0_refusalOf_36 (by decide) ?_
        refine lv_icmp_lt (tgt := 52) hx hb dX0_refusalOf_38 (by decide) (fun c_38 => ?_) (fun c_38 => ?_)
        · refine lv_lconst (v := 0) hx hb dX0_refusalOf_52 (by decide) ?_
          exact W.lret (v := 0) hx hb hr (fun t ht hW => ⟨0, rfl, (by simp only [xf_refusalOf, if_neg c_4, if_neg c_16, if_pos c_28, if_pos c_38]), ht⟩) (fun _ h => by cases h) dX0_refusalOf_53
        · refine lv_aload_n hx hb dX0_refusalOf_41 rfl (lv_at hl 0 rfl) ?_
          refine va_get (D := D) (ci := 0) (v := .int x5) (C := RX0) (T := TX0) (N := 14) hx hb hts (fun _ h => List.mem_cons_of_mem _ (List.mem_append_right _ h)) hown hK hP 0 rfl rfl 5 (by decide) (hts (.fieldLink RX0 27 "PostDesk2" "collected" "I") (by decide +kernel)) (fun _ h9 => h9) rfl dX0_refusalOf_42 ?_
          refine lv_if_ne (tgt := 52) hx hb dX0_refusalOf_45 (by decide) (fun c_45 => ?_) (fun c_45 => ?_)
          · refine lv_lconst (v := 0) hx hb dX0_refusalOf_52 (by decide) ?_
            exact W.lret (v := 0) hx hb hr (fun t ht hW => ⟨0, rfl, (by simp only [xf_refusalOf, if_neg c_4, if_neg c_16, if_pos c_28, if_neg c_38, if_neg c_45]), ht⟩) (fun _ h => by cases h) dX0_refusalOf_53
          · refine lv_ldc2 (v := (-9000000000000000013)) hx hb hown (hts (.constantLong RX0 94 (-9000000000000000013)) (by decide +kernel)) dX0_refusalOf_48 ?_
            exact W.lret (v := (-9000000000000000013)) hx hb hr (fun t ht hW => ⟨(-9000000000000000013), rfl, (by simp only [xf_refusalOf, if_neg c_4, if_neg c_16, if_pos c_28, if_neg c_38, if_pos c_45]), ht⟩) (fun _ h => by cases h) dX0_refusalOf_51
      · refine lv_ldc2 (v := (-9000000000000000011)) hx hb hown (hts (.constantLong RX0 92 (-9000000000000000011)) (by decide +kernel)) dX0_refusalOf_31 ?_
        exact W.lret (v := (-9000000000000000011)) hx hb hr (fun t ht hW => ⟨(-9000000000000000011), rfl, (by simp only [xf_refusalOf, if_neg c_4, if_neg c_16, if_neg c_28]), ht⟩) (fun _ h => by cases h) dX0_refusalOf_34
  · refine lv_ldc2 (v := (-9000000000000000012)) hx hb hown (hts (.constantLong RX0 71 (-9000000000000000012)) (by decide +kernel)) dX0_refusalOf_7 ?_
    exact W.lret (v := (-9000000000000000012)) hx hb hr (fun t ht hW => ⟨(-9000000000000000012), rfl, (by simp only [xf_refusalOf, if_pos c_4]), ht⟩) (fun _ h => by cases h) dX0_refusalOf_10
/-- no ground to refuse: the call is one of the calls -/
theorem xro_in (u : XS) (c n : Int32) (h : lg_cmp (xf_refusalOf u c n) 0 = 0) : vp_in c 20 := by
  rw [lg_cmp_eq] at h
  by_cases hc : xf_isCall c = 0
  · obtain ⟨x0, x1, x2, x3, x4, x5, x6, x7, x8, x9, x10, x11, x12, x13⟩ := u
    simp only [xf_refusalOf, if_pos hc] at h
    exact absurd h (by decide)
  · exact xkc_in hc
def xf_replyTo (u : XS) (p1 : Int64) (p3 : Int32) (p4 : Int64) : Int64 := match u with
  | (_, _, _, x3, x4, _, x6, _, _, _, _, _, _, _) => if (lg_cmp p1 0) = 0 then (if (x4 (p3).toNatClampNeg) = 0 then ((((x3 (p3).toNatClampNeg) + p4) + x6)) else ((-9000000000000000020))) else (p1)
set_option maxHeartbeats 4000000 in
set_option maxRecDepth 100000 in
theorem xk_replyTo (l : Launch) (D : va_G) (ad : Nat → Nat) (cd : Nat → ClassId) (u : XS) (p1 : Int64) (p3 : Int32) (p4 : Int64) (h1 : lg_cmp p1 0 = 0 → vp_in p3 20) : Met l yX0_replyTo wsX0_replyTo ({ frames := 0, cells := 0, slots := 0, locals := 0 }) (xPr D ad cd u [.long p1, .int p3, .long p4]) (vp_Sl (fun r => r = xf_replyTo u p1 p3 p4)) 0 0 (fun _ => False) := by
  obtain ⟨x0, x1, x2, x3, x4, x5, x6, x7, x8, x9, x10, x11, x12, x13⟩ := u
  refine Met.ofW (cc := cX0_replyTo) (maxL := 6) (ret := (some .long)) (by decide) rfl ?_
  intro p e s m args below meth c s₁ B hml hv
  obtain ⟨rfl, hP, hK⟩ := hv
  have hx := B.exec
  have hb := B.bytes
  have hr := B.returns
  have hts := atoms_spec (ws := wsX0_replyTo) B.pre
  have hown : s.vm.findClass RX0 = some m.cls := findClass_of_methodNamed B.named
  have hlocks := B.notSynchronized
  have hP : va_P D vwCl (xw ad cd (x0, x1, x2, x3, x4, x5, x6, x7, x8, x9, x10, x11, x12, x13)) s.heap := hP
  have hl := lv_entry ([.ref (ad 0), .long p1, .int p3, .long p4]) (n := 6) (Nat.le_of_ble_eq_true rfl)
  rw [lg_entry_eq]
  generalize (lg_sl ([.ref (ad 0), .long p1, .int p3, .long p4]) ++ List.replicate (6 - (lg_sl ([.ref (ad 0), .long p1, .int p3, .long p4])).length) Slot.unset).toArray = ls at hl ⊢
  have hl : lv_has ls 6 [(0, .ref (ad 0)), (1, .long p1), (3, .int p3), (4, .long p4)] := hl
  refine lv_lload_n hx hb dX0_replyTo_0 rfl (lv_at hl 1 rfl) ?_
  refine lv_lconst (v := 0) hx hb dX0_replyTo_1 (by decide) ?_
  refine W.lcmp hx hb dX0_replyTo_2 ?_
  refine lv_if_eq (tgt := 8) hx hb dX0_replyTo_3 (by decide) (fun c_3 => ?_) (fun c_3 => ?_)
  · refine lv_aload_n hx hb dX0_replyTo_8 rfl (lv_at hl 0 rfl) ?_
    refine va_get (D := D) (ci := 0) (v := .ref (ad 5)) (C := RX0) (T := TX0) (N := 14) hx hb hts (fun _ h => List.mem_cons_of_mem _ (List.mem_append_right _ h)) hown hK hP 0 rfl rfl 4 (by decide) (hts (.fieldLink RX0 24 "PostDesk2" "failures" "[I") (by decide +kernel)) (fun _ h9 => h9) rfl dX0_replyTo_9 ?_
    refine lv_iload_n hx hb dX0_replyTo_12 rfl (lv_at hl 2 rfl) ?_
    refine va_iald hx hb hK hP 5 4 rfl rfl (h1 c_3) dX0_replyTo_13 ?_
    refine lv_if_eq (tgt := 21) hx hb dX0_replyTo_14 (by decide) (fun c_14 => ?_) (fun c_14 => ?_)
    · refine lv_aload_n hx hb dX0_replyTo_21 rfl (lv_at hl 0 rfl) ?_
      refine va_get (D := D) (ci := 0) (v := .ref (ad 4)) (C := RX0) (T := TX0) (N := 14) hx hb hts (fun _ h => List.mem_cons_of_mem _ (List.mem_append_right _ h)) hown hK hP 0 rfl rfl 3 (by decide) (hts (.fieldLink RX0 20 "PostDesk2" "values" "[J") (by decide +kernel)) (fun _ h9 => h9) rfl dX0_replyTo_22 ?_
      refine lv_iload_n hx hb dX0_replyTo_25 rfl (lv_at hl 2 rfl) ?_
      refine va_lald hx hb hK hP 4 3 rfl rfl (h1 c_3) dX0_replyTo_26 ?_
      refine lv_lload hx hb dX0_replyTo_27 (lv_at hl 3 rfl) ?_
      refine lv_ladd hx hb dX0_replyTo_29 ?_
      refine lv_aload_n hx hb dX0_replyTo_30 rfl (lv_at hl 0 rfl) ?_
      refine va_get (D := D) (ci := 0) (v := .long x6) (C := RX0) (T := TX0) (N := 14) hx hb hts (fun _ h => List.mem_cons_of_mem _ (List.mem_append_right _ h)) hown hK hP 0 rfl rfl 6 (by decide) (hts (.fieldLink RX0 31 "PostDesk2" "digest" "J") (by decide +kernel)) (fun _ h9 => h9) rfl dX0_replyTo_31 ?_
      refine lv_ladd hx hb dX0_replyTo_34 ?_
      exact W.lret (v := (((x3 (p3).toNatClampNeg) + p4) + x6)) hx hb hr (fun t ht hW => ⟨(((x3 (p3).toNatClampNeg) + p4) + x6), rfl, (by simp only [xf_replyTo, if_pos c_3, if_pos c_14]), ht⟩) (fun _ h => by cases h) dX0_replyTo_35
    · refine lv_ldc2 (v := (-9000000000000000020)) hx hb hown (hts (.constantLong RX0 96 (-9000000000000000020)) (by decide +kernel)) dX0_replyTo_17 ?_
      exact W.lret (v := (-9000000000000000020)) hx hb hr (fun t ht hW => ⟨(-9000000000000000020), rfl, (by simp only [xf_replyTo, if_pos c_3, if_neg c_14]), ht⟩) (fun _ h => by cases h) dX0_replyTo_20
  · refine lv_lload_n hx hb dX0_replyTo_6 rfl (lv_at hl 1 rfl) ?_
    exact W.lret (v := p1) hx hb hr (fun t ht hW => ⟨p1, rfl, (by simp only [xf_replyTo, if_neg c_3]), ht⟩) (fun _ h => by cases h) dX0_replyTo_7
def xf_logBehind (u : XS) (p1 : Int64) (p3 : Int32) (p4 : Int32) (p5 : Int64) : Int64 := match u with
  | (_, _, _, _, x4, _, _, _, _, _, _, _, _, x13) => if (lg_cmp p1 (-9000000000000000012)) = 0 then (x13) else (if (lg_cmp p1 0) = 0 then (if (x4 (p3).toNatClampNeg) = 0 then (((17 * (((1000003 * x13) + (32 * (p4).toInt64)) + (p3).toInt64)) + p5)) else ((((17 * (((1000003 * x13) + (32 * (p4).toInt64)) + (p3).toInt64)) - 1) - ((x4 (p3).toNatClampNeg)).toInt64))) else (((17 * (((1000003 * x13) + (32 * (p4).toInt64)) + (p3).toInt64)) - 1)))
set_option maxHeartbeats 4000000 in
set_option maxRecDepth 100000 in
theorem xk_logBehind (l : Launch) (D : va_G) (ad : Nat → Nat) (cd : Nat → ClassId) (u : XS) (p1 : Int64) (p3 : Int32) (p4 : Int32) (p5 : Int64) (h1 : lg_cmp p1 0 = 0 → vp_in p3 20) : Met l yX0_logBehind wsX0_logBehind ({ frames := 0, cells := 0, slots := 0, locals := 0 }) (xPr D ad cd u [.long p1, .int p3, .int p4, .long p5]) (vp_Sl (fun r => r = xf_logBehind u p1 p3 p4 p5)) 0 0 (fun _ => False) := by
  obtain ⟨x0, x1, x2, x3, x4, x5, x6, x7, x8, x9, x10, x11, x12, x13⟩ := u
  refine Met.ofW (cc := cX0_logBehind) (maxL := 9) (ret := (some .long)) (by decide) rfl ?_
  intro p e s m args below meth c s₁ B hml hv
  obtain ⟨rfl, hP, hK⟩ := hv
  have hx := B.exec
  have hb := B.bytes
  have hr := B.returns
  have hts := atoms_spec (ws := wsX0_logBehind) B.pre
  have hown : s.vm.findClass RX0 = some m.cls := findClass_of_methodNamed B.named
  have hlocks := B.notSynchronized
  have hP : va_P D vwCl (xw ad cd (x0, x1, x2, x3, x4, x5, x6, x7, x8, x9, x10, x11, x12, x13)) s.heap := hP
  have hl := lv_entry ([.ref (ad 0), .long p1, .int p3, .int p4, .long p5]) (n := 9) (Nat.le_of_ble_eq_true rfl)
  rw [lg_entry_eq]
  generalize (lg_sl ([.ref (ad 0), .long p1, .int p3, .int p4, .long p5]) ++ List.replicate (9 - (lg_sl ([.ref (ad 0), .long p1, .int p3, .int p4, .long p5])).length) Slot.unset).toArray = ls at hl ⊢
  have hl : lv_has ls 9 [(0, .ref (ad 0)), (1, .long p1), (3, .int p3), (4, .int p4), (5, .long p5)] := hl
  refine lv_lload_n hx hb dX0_logBehind_0 rfl (lv_at hl 1 rfl) ?_
  refine lv_ldc2 (v := (-9000000000000000012)) hx hb hown (hts (.constantLong RX0 71 (-9000000000000000012)) (by decide +kernel)) dX0_logBehind_1 ?_
  refine W.lcmp hx hb dX0_logBehind_4 ?_
  refine lv_if_ne (tgt := 13) hx hb dX0_logBehind_5 (by decide) (fun c_5 => ?_) (fun c_5 => ?_)
  · refine lv_ldc2 (v := 17) hx hb hown (hts (.constantLong RX0 98 17) (by decide +kernel)) dX0_logBehind_13 ?_
    refine lv_ldc2 (v := 1000003) hx hb hown (hts (.constantLong RX0 100 1000003) (by decide +kernel)) dX0_logBehind_16 ?_
    refine lv_aload_n hx hb dX0_logBehind_19 rfl (lv_at hl 0 rfl) ?_
    refine va_get (D := D) (ci := 0) (v := .long x13) (C := RX0) (T := TX0) (N := 14) hx hb hts (fun _ h => List.mem_cons_of_mem _ (List.mem_append_right _ h)) hown hK hP 0 rfl rfl 13 (by decide) (hts (.fieldLink RX0 55 "PostDesk2" "logged" "J") (by decide +kernel)) (fun _ h9 => h9) rfl dX0_logBehind_20 ?_
    refine lv_lmul hx hb dX0_logBehind_23 ?_
    refine lv_ldc2 (v := 32) hx hb hown (hts (.constantLong RX0 102 32) (by decide +kernel)) dX0_logBehind_24 ?_
    refine lv_iload hx hb dX0_logBehind_27 (lv_at hl 3 rfl) ?_
    refine lv_i2l hx hb dX0_logBehind_29 rfl ?_
    refine lv_lmul hx hb dX0_logBehind_30 ?_
    refine lv_ladd hx hb dX0_logBehind_31 ?_
    refine lv_iload_n hx hb dX0_logBehind_32 rfl (lv_at hl 2 rfl) ?_
    refine lv_i2l hx hb dX0_logBehind_33 rfl ?_
    refine lv_ladd hx hb dX0_logBehind_34 ?_
    refine lv_lmul hx hb dX0_logBehind_35 ?_
    refine lv_lstore (lv' := [(7, .long (17 * (((1000003 * x13) + (32 * (p4).toInt64)) + (p3).toInt64))), (0, .ref (ad 0)), (1, .long p1), (3, .int p3), (4, .int p4), (5, .long p5)]) hx hb dX0_logBehind_36 hl (by decide) rfl (fun ls hl => ?_)
    refine lv_lload_n hx hb dX0_logBehind_38 rfl (lv_at hl 2 rfl) ?_
    refine lv_lconst (v := 0) hx hb dX0_logBehind_39 (by decide) ?_
    refine W.lcmp hx hb dX0_logBehind_40 ?_
    refine lv_if_eq (tgt := 49) hx hb dX0_logBehind_41 (by decide) (fun c_41 => ?_) (fun c_41 => ?_)
    · refine lv_aload_n hx hb dX0_logBehind_49 rfl (lv_at hl 1 rfl) ?_
      refine va_get (D := D) (ci := 0) (v := .ref (ad 5)) (C := RX0) (T := TX0) (N := 14) hx hb hts (fun _ h => List.mem_cons_of_mem _ (List.mem_append_right _ h)) hown hK hP 0 rfl rfl 4 (by decide) (hts (.fieldLink RX0 24 "PostDesk2" "failures" "[I") (by decide +kernel)) (fun _ h9 => h9) rfl dX0_logBehind_50 ?_
      refine lv_iload_n hx hb dX0_logBehind_53 rfl (lv_at hl 3 rfl) ?_
      refine va_iald hx hb hK hP 5 4 rfl rfl (h1 c_41) dX0_logBehind_54 ?_
      refine lv_if_eq (tgt := 71) hx hb dX0_logBehind_55 (by decide) (fun c_55 => ?_) (fun c_55 => ?_)
      · refine lv_lload hx hb dX0_logBehind_71 (lv_at hl 0 rfl) ?_
        refine lv_lload hx hb dX0_logBehind_73 (lv_at hl 5 rfl) ?_
        refine lv_ladd hx hb dX0_logBehind_75 ?_
        exact W.lret (v := ((17 * (((1000003 * x13) + (32 * (p4).toInt64)) + (p3).toInt64)) + p5)) hx hb hr (fun t ht hW => ⟨((17 * (((1000003 * x13) + (32 * (p4).toInt64)) + (p3).toInt64)) + p5), rfl, (by simp only [xf_logBehind, if_neg c_5, if_pos c_41, if_pos c_55]), ht⟩) (fun _ h => by cases h) dX0_logBehind_76
      · refine lv_lload hx hb dX0_logBehind_58 (lv_at hl 0 rfl) ?_
        refine lv_lconst (v := 1) hx hb dX0_logBehind_60 (by decide) ?_
        refine lv_lsub hx hb dX0_logBehind_61 ?_
        refine lv_aload_n hx hb dX0_logBehind_62 rfl (lv_at hl 1 rfl) ?_
        refine va_get (D := D) (ci := 0) (v := .ref (ad 5)) (C := RX0) (T := TX0) (N := 14) hx hb hts (fun _ h => List.mem_cons_of_mem _ (List.mem_append_right _ h)) hown hK hP 0 rfl rfl 4 (by decide) (hts (.fieldLink RX0 24 "PostDesk2" "failures" "[I") (by decide +kernel)) (fun _ h9 => h9) rfl dX0_logBehind_63 ?_
        refine lv_iload_n hx hb dX0_logBehind_66 rfl (lv_at hl 3 rfl) ?_
        refine va_iald hx hb hK hP 5 4 rfl rfl (h1 c_41) dX0_logBehind_67 ?_
        refine lv_i2l hx hb dX0_logBehind_68 rfl ?_
        refine lv_lsub hx hb dX0_logBehind_69 ?_
        exact W.lret (v := (((17 * (((1000003 * x13) + (32 * (p4).toInt64)) + (p3).toInt64)) - 1) - ((x4 (p3).toNatClampNeg)).toInt64)) hx hb hr (fun t ht hW => ⟨(((17 * (((1000003 * x13) + (32 * (p4).toInt64)) + (p3).toInt64)) - 1) - ((x4 (p3).toNatClampNeg)).toInt64), rfl, (by simp only [xf_logBehind, if_neg c_5, if_pos c_41, if_neg c_55]), ht⟩) (fun _ h => by cases h) dX0_logBehind_70
    · refine lv_lload hx hb dX0_logBehind_44 (lv_at hl 0 rfl) ?_
      refine lv_lconst (v := 1) hx hb dX0_logBehind_46 (by decide) ?_
      refine lv_lsub hx hb dX0_logBehind_47 ?_
      exact W.lret (v := ((17 * (((1000003 * x13) + (32 * (p4).toInt64)) + (p3).toInt64)) - 1)) hx hb hr (fun t ht hW => ⟨((17 * (((1000003 * x13) + (32 * (p4).toInt64)) + (p3).toInt64)) - 1), rfl, (by simp only [xf_logBehind, if_neg c_5, if_neg c_41]), ht⟩) (fun _ h => by cases h) dX0_logBehind_48
  · refine lv_aload_n hx hb dX0_logBehind_8 rfl (lv_at hl 0 rfl) ?_
    refine va_get (D := D) (ci := 0) (v := .long x13) (C := RX0) (T := TX0) (N := 14) hx hb hts (fun _ h => List.mem_cons_of_mem _ (List.mem_append_right _ h)) hown hK hP 0 rfl rfl 13 (by decide) (hts (.fieldLink RX0 55 "PostDesk2" "logged" "J") (by decide +kernel)) (fun _ h9 => h9) rfl dX0_logBehind_9 ?_
    exact W.lret (v := x13) hx hb hr (fun t ht hW => ⟨x13, rfl, (by simp only [xf_logBehind, if_pos c_5]), ht⟩) (fun _ h => by cases h) dX0_logBehind_12
def xf_told (u : XS) (p1 : Int32) : Int64 := match u with
  | (_, _, _, _, _, x5, _, x7, x8, x9, x10, x11, x12, x13) => if p1 = 0 then (x7) else if p1 = 1 then (x8) else if p1 = 2 then (x9) else if p1 = 3 then ((x10).toInt64) else if p1 = 4 then ((x11).toInt64) else if p1 = 5 then ((x12).toInt64) else if p1 = 6 then ((x5).toInt64) else if p1 = 7 then (x13) else 0
set_option maxHeartbeats 4000000 in
set_option maxRecDepth 100000 in
theorem xk_told (l : Launch) (D : va_G) (ad : Nat → Nat) (cd : Nat → ClassId) (u : XS) (p1 : Int32)  : Met l yX0_told wsX0_told ({ frames := 0, cells := 0, slots := 0, locals := 0 }) (xPr D ad cd u [.int p1]) (vp_Sl (fun r => r = xf_told u p1)) 0 0 (fun _ => False) := by
  obtain ⟨x0, x1, x2, x3, x4, x5, x6, x7, x8, x9, x10, x11, x12, x13⟩ := u
  refine Met.ofW (cc := cX0_told) (maxL := 2) (ret := (some .long)) (by decide) rfl ?_
  intro p e s m args below meth c s₁ B hml hv
  obtain ⟨rfl, hP, hK⟩ := hv
  have hx := B.exec
  have hb := B.bytes
  have hr := B.returns
  have hts := atoms_spec (ws := wsX0_told) B.pre
  have hown : s.vm.findClass RX0 = some m.cls := findClass_of_methodNamed B.named
  have hlocks := B.notSynchronized
  have hP : va_P D vwCl (xw ad cd (x0, x1, x2, x3, x4, x5, x6, x7, x8, x9, x10, x11, x12, x13)) s.heap := hP
  have hl := lv_entry ([.ref (ad 0), .int p1]) (n := 2) (Nat.le_of_ble_eq_true rfl)
  rw [lg_entry_eq]
  generalize (lg_sl ([.ref (ad 0), .int p1]) ++ List.replicate (2 - (lg_sl ([.ref (ad 0), .int p1])).length) Slot.unset).toArray = ls at hl ⊢
  have hl : lv_has ls 2 [(0, .ref (ad 0)), (1, .int p1)] := hl
  refine lv_iload_n hx hb dX0_told_0 rfl (lv_at hl 1 rfl) ?_
  by_cases c_1_0 : p1 = 0
  · refine lv_tableIn (tgt := 48) hx hb dX0_told_1 (by rw [c_1_0]; decide) (by rw [c_1_0]; decide) (by rw [c_1_0]; rfl) (by decide) ?_
    refine lv_aload_n hx hb dX0_told_48 rfl (lv_at hl 0 rfl) ?_
    refine va_get (D := D) (ci := 0) (v := .long x7) (C := RX0) (T := TX0) (N := 14) hx hb hts (fun _ h => List.mem_cons_of_mem _ (List.mem_append_right _ h)) hown hK hP 0 rfl rfl 7 (by decide) (hts (.fieldLink RX0 35 "PostDesk2" "answeredCalls" "J") (by decide +kernel)) (fun _ h9 => h9) rfl dX0_told_49 ?_
    exact W.lret (v := x7) hx hb hr (fun t ht hW => ⟨x7, rfl, (by simp only [xf_told, if_pos c_1_0]), ht⟩) (fun _ h => by cases h) dX0_told_52
  by_cases c_1_1 : p1 = 1
  · refine lv_tableIn (tgt := 53) hx hb dX0_told_1 (by rw [c_1_1]; decide) (by rw [c_1_1]; decide) (by rw [c_1_1]; rfl) (by decide) ?_
    refine lv_aload_n hx hb dX0_told_53 rfl (lv_at hl 0 rfl) ?_
    refine va_get (D := D) (ci := 0) (v := .long x8) (C := RX0) (T := TX0) (N := 14) hx hb hts (fun _ h => List.mem_cons_of_mem _ (List.mem_append_right _ h)) hown hK hP 0 rfl rfl 8 (by decide) (hts (.fieldLink RX0 38 "PostDesk2" "refusedCalls" "J") (by decide +kernel)) (fun _ h9 => h9) rfl dX0_told_54 ?_
    exact W.lret (v := x8) hx hb hr (fun t ht hW => ⟨x8, rfl, (by simp only [xf_told, if_neg c_1_0, if_pos c_1_1]), ht⟩) (fun _ h => by cases h) dX0_told_57
  by_cases c_1_2 : p1 = 2
  · refine lv_tableIn (tgt := 58) hx hb dX0_told_1 (by rw [c_1_2]; decide) (by rw [c_1_2]; decide) (by rw [c_1_2]; rfl) (by decide) ?_
    refine lv_aload_n hx hb dX0_told_58 rfl (lv_at hl 0 rfl) ?_
    refine va_get (D := D) (ci := 0) (v := .long x9) (C := RX0) (T := TX0) (N := 14) hx hb hts (fun _ h => List.mem_cons_of_mem _ (List.mem_append_right _ h)) hown hK hP 0 rfl rfl 9 (by decide) (hts (.fieldLink RX0 41 "PostDesk2" "failedCalls" "J") (by decide +kernel)) (fun _ h9 => h9) rfl dX0_told_59 ?_
    exact W.lret (v := x9) hx hb hr (fun t ht hW => ⟨x9, rfl, (by simp only [xf_told, if_neg c_1_0, if_neg c_1_1, if_pos c_1_2]), ht⟩) (fun _ h => by cases h) dX0_told_62
  by_cases c_1_3 : p1 = 3
  · refine lv_tableIn (tgt := 63) hx hb dX0_told_1 (by rw [c_1_3]; decide) (by rw [c_1_3]; decide) (by rw [c_1_3]; rfl) (by decide) ?_
    refine lv_aload_n hx hb dX0_told_63 rfl (lv_at hl 0 rfl) ?_
    refine va_get (D := D) (ci := 0) (v := .int x10) (C := RX0) (T := TX0) (N := 14) hx hb hts (fun _ h => List.mem_cons_of_mem _ (List.mem_append_right _ h)) hown hK hP 0 rfl rfl 10 (by decide) (hts (.fieldLink RX0 44 "PostDesk2" "latestFailure" "I") (by decide +kernel)) (fun _ h9 => h9) rfl dX0_told_64 ?_
    refine lv_i2l hx hb dX0_told_67 rfl ?_
    exact W.lret (v := (x10).toInt64) hx hb hr (fun t ht hW => ⟨(x10).toInt64, rfl, (by simp only [xf_told, if_neg c_1_0, if_neg c_1_1, if_neg c_1_2, if_pos c_1_3]), ht⟩) (fun _ h => by cases h) dX0_told_68
  by_cases c_1_4 : p1 = 4
  · refine lv_tableIn (tgt := 69) hx hb dX0_told_1 (by rw [c_1_4]; decide) (by rw [c_1_4]; decide) (by rw [c_1_4]; rfl) (by decide) ?_
    refine lv_aload_n hx hb dX0_told_69 rfl (lv_at hl 0 rfl) ?_
    refine va_get (D := D) (ci := 0) (v := .int x11) (C := RX0) (T := TX0) (N := 14) hx hb hts (fun _ h => List.mem_cons_of_mem _ (List.mem_append_right _ h)) hown hK hP 0 rfl rfl 11 (by decide) (hts (.fieldLink RX0 47 "PostDesk2" "latestNumber" "I") (by decide +kernel)) (fun _ h9 => h9) rfl dX0_told_70 ?_
    refine lv_i2l hx hb dX0_told_73 rfl ?_
    exact W.lret (v := (x11).toInt64) hx hb hr (fun t ht hW => ⟨(x11).toInt64, rfl, (by simp only [xf_told, if_neg c_1_0, if_neg c_1_1, if_neg c_1_2, if_neg c_1_3, if_pos c_1_4]), ht⟩) (fun _ h => by cases h) dX0_told_74
  by_cases c_1_5 : p1 = 5
  · refine lv_tableIn (tgt := 75) hx hb dX0_told_1 (by rw [c_1_5]; decide) (by rw [c_1_5]; decide) (by rw [c_1_5]; rfl) (by decide) ?_
    refine lv_aload_n hx hb dX0_told_75 rfl (lv_at hl 0 rfl) ?_
    refine va_get (D := D) (ci := 0) (v := .int x12) (C := RX0) (T := TX0) (N := 14) hx hb hts (fun _ h => List.mem_cons_of_mem _ (List.mem_append_right _ h)) hown hK hP 0 rfl rfl 12 (by decide) (hts (.fieldLink RX0 50 "PostDesk2" "latestCall" "I") (by decide +kernel)) (fun _ h9 => h9) rfl dX0_told_76 ?_
    refine lv_i2l hx hb dX0_told_79 rfl ?_
    exact W.lret (v := (x12).toInt64) hx hb hr (fun t ht hW => ⟨(x12).toInt64, rfl, (by simp only [xf_told, if_neg c_1_0, if_neg c_1_1, if_neg c_1_2, if_neg c_1_3, if_neg c_1_4, if_pos c_1_5]), ht⟩) (fun _ h => by cases h) dX0_told_80
  by_cases c_1_6 : p1 = 6
  · refine lv_tableIn (tgt := 81) hx hb dX0_told_1 (by rw [c_1_6]; decide) (by rw [c_1_6]; decide) (by rw [c_1_6]; rfl) (by decide) ?_
    refine lv_aload_n hx hb dX0_told_81 rfl (lv_at hl 0 rfl) ?_
    refine va_get (D := D) (ci := 0) (v := .int x5) (C := RX0) (T := TX0) (N := 14) hx hb hts (fun _ h => List.mem_cons_of_mem _ (List.mem_append_right _ h)) hown hK hP 0 rfl rfl 5 (by decide) (hts (.fieldLink RX0 27 "PostDesk2" "collected" "I") (by decide +kernel)) (fun _ h9 => h9) rfl dX0_told_82 ?_
    refine lv_i2l hx hb dX0_told_85 rfl ?_
    exact W.lret (v := (x5).toInt64) hx hb hr (fun t ht hW => ⟨(x5).toInt64, rfl, (by simp only [xf_told, if_neg c_1_0, if_neg c_1_1, if_neg c_1_2, if_neg c_1_3, if_neg c_1_4, if_neg c_1_5, if_pos c_1_6]), ht⟩) (fun _ h => by cases h) dX0_told_86
  by_cases c_1_7 : p1 = 7
  · refine lv_tableIn (tgt := 87) hx hb dX0_told_1 (by rw [c_1_7]; decide) (by rw [c_1_7]; decide) (by rw [c_1_7]; rfl) (by decide) ?_
    refine lv_aload_n hx hb dX0_told_87 rfl (lv_at hl 0 rfl) ?_
    refine va_get (D := D) (ci := 0) (v := .long x13) (C := RX0) (T := TX0) (N := 14) hx hb hts (fun _ h => List.mem_cons_of_mem _ (List.mem_append_right _ h)) hown hK hP 0 rfl rfl 13 (by decide) (hts (.fieldLink RX0 55 "PostDesk2" "logged" "J") (by decide +kernel)) (fun _ h9 => h9) rfl dX0_told_88 ?_
    exact W.lret (v := x13) hx hb hr (fun t ht hW => ⟨x13, rfl, (by simp only [xf_told, if_neg c_1_0, if_neg c_1_1, if_neg c_1_2, if_neg c_1_3, if_neg c_1_4, if_neg c_1_5, if_neg c_1_6, if_pos c_1_7]), ht⟩) (fun _ h => by cases h) dX0_told_91
  refine lv_tableOut (tgt := 92) hx hb dX0_told_1 (sw_out8 c_1_0 c_1_1 c_1_2 c_1_3 c_1_4 c_1_5 c_1_6 c_1_7) (by decide) ?_
  refine lv_lconst (v := 0) hx hb dX0_told_92 (by decide) ?_
  exact W.lret (v := 0) hx hb hr (fun t ht hW => ⟨0, rfl, (by simp only [xf_told, if_neg c_1_0, if_neg c_1_1, if_neg c_1_2, if_neg c_1_3, if_neg c_1_4, if_neg c_1_5, if_neg c_1_6, if_neg c_1_7]), ht⟩) (fun _ h => by cases h) dX0_told_93
def xf_numbers (u : XS) (p1 : Int32) : Int32 := match u with
  | (_, x1, _, _, _, _, _, _, _, _, _, _, _, _) => if (xf_isKind p1) = 0 then ((-1)) else ((x1 (p1).toNatClampNeg))
set_option maxHeartbeats 4000000 in
set_option maxRecDepth 100000 in
theorem xk_numbers (l : Launch) (D : va_G) (ad : Nat → Nat) (cd : Nat → ClassId) (u : XS) (p1 : Int32)  : Met l yX0_numbers wsX0_numbers ({ frames := 1, cells := 0, slots := 0, locals := 20 }) (xPr D ad cd u [.int p1]) (vp_Si (fun r => r = xf_numbers u p1)) 0 0 (fun _ => False) := by
  obtain ⟨x0, x1, x2, x3, x4, x5, x6, x7, x8, x9, x10, x11, x12, x13⟩ := u
  refine Met.ofW (cc := cX0_numbers) (maxL := 2) (ret := (some .int)) (by decide) rfl ?_
  intro p e s m args below meth c s₁ B hml hv
  obtain ⟨rfl, hP, hK⟩ := hv
  have hx := B.exec
  have hb := B.bytes
  have hr := B.returns
  have hts := atoms_spec (ws := wsX0_numbers) B.pre
  have hown : s.vm.findClass RX0 = some m.cls := findClass_of_methodNamed B.named
  have hlocks := B.notSynchronized
  have hP : va_P D vwCl (xw ad cd (x0, x1, x2, x3, x4, x5, x6, x7, x8, x9, x10, x11, x12, x13)) s.heap := hP
  have hl := lv_entry ([.ref (ad 0), .int p1]) (n := 2) (Nat.le_of_ble_eq_true rfl)
  rw [lg_entry_eq]
  generalize (lg_sl ([.ref (ad 0), .int p1]) ++ List.replicate (2 - (lg_sl ([.ref (ad 0), .int p1])).length) Slot.unset).toArray = ls at hl ⊢
  have hl : lv_has ls 2 [(0, .ref (ad 0)), (1, .int p1)] := hl
  refine lv_iload_n hx hb dX0_numbers_0 rfl (lv_at hl 1 rfl) ?_
  refine vp_callSi (W.runS (As := [.int p1]) (rest := []) ⟨hx, hb, hml, hown, hts⟩ (xk_isKind l p1) (va_cwS 1 hts gX0_numbers_X0_isKind rfl rfl rfl (by decide +kernel) ⟨Nat.le_of_ble_eq_true rfl, Nat.le_of_ble_eq_true rfl⟩) ⟨fun a U g mk q => q, fun U hU hW => ⟨rfl, trivial⟩⟩ rfl rfl hl.1 rfl (lv_room (Nat.le_of_ble_eq_true rfl)) dX0_numbers_1 ⟨Nat.zero_le _, Nat.zero_le _⟩) (fun r_1 hr_1 => ?_)
  subst hr_1
  refine lv_if_eq (tgt := 16) hx hb dX0_numbers_4 (by decide) (fun c_4 => ?_) (fun c_4 => ?_)
  · refine lv_iconst (v := (-1)) hx hb dX0_numbers_16 (by decide) ?_
    exact W.iret (v := (-1)) hx hb hr (fun t ht hW => ⟨(-1), rfl, (by simp only [xf_numbers, if_pos c_4]), ht⟩) (fun _ h => by cases h) dX0_numbers_17
  · refine lv_aload_n hx hb dX0_numbers_7 rfl (lv_at hl 0 rfl) ?_
    refine va_get (D := D) (ci := 0) (v := .ref (ad 2)) (C := RX0) (T := TX0) (N := 14) hx hb hts (fun _ h => List.mem_cons_of_mem _ (List.mem_append_right _ h)) hown hK hP 0 rfl rfl 1 (by decide) (hts (.fieldLink RX0 13 "PostDesk2" "presentOfKind" "[I") (by decide +kernel)) (fun _ h9 => h9) rfl dX0_numbers_8 ?_
    refine lv_iload_n hx hb dX0_numbers_11 rfl (lv_at hl 1 rfl) ?_
    refine va_iald hx hb hK hP 2 1 rfl rfl (xkk_in c_4) dX0_numbers_12 ?_
    refine lv_goto (tgt := 17) hx hb dX0_numbers_13 (by decide) ?_
    exact W.iret (v := (x1 (p1).toNatClampNeg)) hx hb hr (fun t ht hW => ⟨(x1 (p1).toNatClampNeg), rfl, (by simp only [xf_numbers, if_neg c_4]), ht⟩) (fun _ h => by cases h) dX0_numbers_17
def xf_again (u : XS) (p1 : Int32) (p2 : Int32) (p3 : Int64) : Int64 := match u with
  | (x0, x1, x2, x3, x4, x5, x6, x7, x8, x9, x10, x11, x12, x13) => (xf_replyTo (x0, x1, x2, x3, x4, x5, x6, x7, x8, x9, x10, x11, x12, x13) (xf_refusalOf (x0, x1, x2, x3, x4, x5, x6, x7, x8, x9, x10, x11, x12, x13) p1 p2) p1 p3)
set_option maxHeartbeats 4000000 in
set_option maxRecDepth 100000 in
theorem xk_again (l : Launch) (D : va_G) (ad : Nat → Nat) (cd : Nat → ClassId) (u : XS) (p1 : Int32) (p2 : Int32) (p3 : Int64)  : Met l yX0_again wsX0_again ({ frames := 4, cells := 0, slots := 0, locals := 86 }) (xPr D ad cd u [.int p1, .int p2, .long p3]) (vp_Sl (fun r => r = xf_again u p1 p2 p3)) 0 0 (fun _ => False) := by
  obtain ⟨x0, x1, x2, x3, x4, x5, x6, x7, x8, x9, x10, x11, x12, x13⟩ := u
  refine Met.ofW (cc := cX0_again) (maxL := 5) (ret := (some .long)) (by decide) rfl ?_
  intro p e s m args below meth c s₁ B hml hv
  obtain ⟨rfl, hP, hK⟩ := hv
  have hx := B.exec
  have hb := B.bytes
  have hr := B.returns
  have hts := atoms_spec (ws := wsX0_again) B.pre
  have hown : s.vm.findClass RX0 = some m.cls := findClass_of_methodNamed B.named
  have hlocks := B.notSynchronized
  have hP : va_P D vwCl (xw ad cd (x0, x1, x2, x3, x4, x5, x6, x7, x8, x9, x10, x11, x12, x13)) s.heap := hP
  have hl := lv_entry ([.ref (ad 0), .int p1, .int p2, .long p3]) (n := 5) (Nat.le_of_ble_eq_true rfl)
  rw [lg_entry_eq]
  generalize (lg_sl ([.ref (ad 0), .int p1, .int p2, .long p3]) ++ List.replicate (5 - (lg_sl ([.ref (ad 0), .int p1, .int p2, .long p3])).length) Slot.unset).toArray = ls at hl ⊢
  have hl : lv_has ls 5 [(0, .ref (ad 0)), (1, .int p1), (2, .int p2), (3, .long p3)] := hl
  refine lv_aload_n hx hb dX0_again_0 rfl (lv_at hl 0 rfl) ?_
  refine lv_aload_n hx hb dX0_again_1 rfl (lv_at hl 0 rfl) ?_
  refine lv_iload_n hx hb dX0_again_2 rfl (lv_at hl 1 rfl) ?_
  refine lv_iload_n hx hb dX0_again_3 rfl (lv_at hl 2 rfl) ?_
  refine vp_callSl (W.runV (As := [.int p1, .int p2]) (rest := [.ref (ad 0)]) ⟨hx, hb, hml, hown, hts⟩ (xk_refusalOf l D ad cd (x0, x1, x2, x3, x4, x5, x6, x7, x8, x9, x10, x11, x12, x13) p1 p2) (cwV 2 hts gX0_again_X0_refusalOf rfl rfl rfl (by decide +kernel) ⟨Nat.le_of_ble_eq_true rfl, Nat.le_of_ble_eq_true rfl⟩) ⟨fun a U g mk q => ⟨q.1, q.2.1, va_K.moved (u := U) (U := U.calling g mk a) (Vm.Alike.refl U.vm) q.2.2⟩, va_recv hK hP (ci := 0) (q0 := 0) rfl rfl, fun U hU hW => ⟨rfl, by rw [hU]; exact hP, va_K.moved hW.alike hK⟩⟩ rfl rfl hl.1 rfl (lv_room (Nat.le_of_ble_eq_true rfl)) dX0_again_4 ⟨Nat.zero_le _, Nat.zero_le _⟩) (fun r_4 hr_4 => ?_)
  subst hr_4
  refine lv_iload_n hx hb dX0_again_7 rfl (lv_at hl 1 rfl) ?_
  refine lv_lload_n hx hb dX0_again_8 rfl (lv_at hl 3 rfl) ?_
  refine vp_callSl (W.runV (As := [.long (xf_refusalOf (x0, x1, x2, x3, x4, x5, x6, x7, x8, x9, x10, x11, x12, x13) p1 p2), .int p1, .long p3]) (rest := []) ⟨hx, hb, hml, hown, hts⟩ (xk_replyTo l D ad cd (x0, x1, x2, x3, x4, x5, x6, x7, x8, x9, x10, x11, x12, x13) (xf_refusalOf (x0, x1, x2, x3, x4, x5, x6, x7, x8, x9, x10, x11, x12, x13) p1 p2) p1 p3 (xro_in _ _ _)) (cwV 3 hts gX0_again_X0_replyTo rfl rfl rfl (by decide +kernel) ⟨Nat.le_of_ble_eq_true rfl, Nat.le_of_ble_eq_true rfl⟩) ⟨fun a U g mk q => ⟨q.1, q.2.1, va_K.moved (u := U) (U := U.calling g mk a) (Vm.Alike.refl U.vm) q.2.2⟩, va_recv hK hP (ci := 0) (q0 := 0) rfl rfl, fun U hU hW => ⟨rfl, by rw [hU]; exact hP, va_K.moved hW.alike hK⟩⟩ rfl rfl hl.1 rfl (lv_room (Nat.le_of_ble_eq_true rfl)) dX0_again_9 ⟨Nat.zero_le _, Nat.zero_le _⟩) (fun r_9 hr_9 => ?_)
  subst hr_9
  exact W.lret (v := (xf_replyTo (x0, x1, x2, x3, x4, x5, x6, x7, x8, x9, x10, x11, x12, x13) (xf_refusalOf (x0, x1, x2, x3, x4, x5, x6, x7, x8, x9, x10, x11, x12, x13) p1 p2) p1 p3)) hx hb hr (fun t ht hW => ⟨(xf_replyTo (x0, x1, x2, x3, x4, x5, x6, x7, x8, x9, x10, x11, x12, x13) (xf_refusalOf (x0, x1, x2, x3, x4, x5, x6, x7, x8, x9, x10, x11, x12, x13) p1 p2) p1 p3), rfl, (by simp only [xf_again]), ht⟩) (fun _ h => by cases h) dX0_again_12
def xf_log (u : XS) (p1 : Int32) (p2 : Int32) (p3 : Int64) : Int64 := match u with
  | (x0, x1, x2, x3, x4, x5, x6, x7, x8, x9, x10, x11, x12, x13) => (xf_logBehind (x0, x1, x2, x3, x4, x5, x6, x7, x8, x9, x10, x11, x12, x13) (xf_refusalOf (x0, x1, x2, x3, x4, x5, x6, x7, x8, x9, x10, x11, x12, x13) p1 p2) p1 p2 (xf_replyTo (x0, x1, x2, x3, x4, x5, x6, x7, x8, x9, x10, x11, x12, x13) (xf_refusalOf (x0, x1, x2, x3, x4, x5, x6, x7, x8, x9, x10, x11, x12, x13) p1 p2) p1 p3))
set_option maxHeartbeats 4000000 in
set_option maxRecDepth 100000 in
theorem xk_log (l : Launch) (D : va_G) (ad : Nat → Nat) (cd : Nat → ClassId) (u : XS) (p1 : Int32) (p2 : Int32) (p3 : Int64)  : Met l yX0_log wsX0_log ({ frames := 4, cells := 0, slots := 0, locals := 86 }) (xPr D ad cd u [.int p1, .int p2, .long p3]) (vp_Sl (fun r => r = xf_log u p1 p2 p3)) 0 0 (fun _ => False) := by
  obtain ⟨x0, x1, x2, x3, x4, x5, x6, x7, x8, x9, x10, x11, x12, x13⟩ := u
  refine Met.ofW (cc := cX0_log) (maxL := 7) (ret := (some .long)) (by decide) rfl ?_
  intro p e s m args below meth c s₁ B hml hv
  obtain ⟨rfl, hP, hK⟩ := hv
  have hx := B.exec
  have hb := B.bytes
  have hr := B.returns
  have hts := atoms_spec (ws := wsX0_log) B.pre
  have hown : s.vm.findClass RX0 = some m.cls := findClass_of_methodNamed B.named
  have hlocks := B.notSynchronized
  have hP : va_P D vwCl (xw ad cd (x0, x1, x2, x3, x4, x5, x6, x7, x8, x9, x10, x11, x12, x13)) s.heap := hP
  have hl := lv_entry ([.ref (ad 0), .int p1, .int p2, .long p3]) (n := 7) (Nat.le_of_ble_eq_true rfl)
  rw [lg_entry_eq]
  generalize (lg_sl ([.ref (ad 0), .int p1, .int p2, .long p3]) ++ List.replicate (7 - (lg_sl ([.ref (ad 0), .int p1, .int p2, .long p3])).length) Slot.unset).toArray = ls at hl ⊢
  have hl : lv_has ls 7 [(0, .ref (ad 0)), (1, .int p1), (2, .int p2), (3, .long p3)] := hl
  refine lv_aload_n hx hb dX0_log_0 rfl (lv_at hl 0 rfl) ?_
  refine lv_iload_n hx hb dX0_log_1 rfl (lv_at hl 1 rfl) ?_
  refine lv_iload_n hx hb dX0_log_2 rfl (lv_at hl 2 rfl) ?_
  refine vp_callSl (W.runV (As := [.int p1, .int p2]) (rest := []) ⟨hx, hb, hml, hown, hts⟩ (xk_refusalOf l D ad cd (x0, x1, x2, x3, x4, x5, x6, x7, x8, x9, x10, x11, x12, x13) p1 p2) (cwV 2 hts gX0_log_X0_refusalOf rfl rfl rfl (by decide +kernel) ⟨Nat.le_of_ble_eq_true rfl, Nat.le_of_ble_eq_true rfl⟩) ⟨fun a U g mk q => ⟨q.1, q.2.1, va_K.moved (u := U) (U := U.calling g mk a) (Vm.Alike.refl U.vm) q.2.2⟩, va_recv hK hP (ci := 0) (q0 := 0) rfl rfl, fun U hU hW => ⟨rfl, by rw [hU]; exact hP, va_K.moved hW.alike hK⟩⟩ rfl rfl hl.1 rfl (lv_room (Nat.le_of_ble_eq_true rfl)) dX0_log_3 ⟨Nat.zero_le _, Nat.zero_le _⟩) (fun r_3 hr_3 => ?_)
  subst hr_3
  refine lv_lstore (lv' := [(5, .long (xf_refusalOf (x0, x1, x2, x3, x4, x5, x6, x7, x8, x9, x10, x11, x12, x13) p1 p2)), (0, .ref (ad 0)), (1, .int p1), (2, .int p2), (3, .long p3)]) hx hb dX0_log_6 hl (by decide) rfl (fun ls hl => ?_)
  refine lv_aload_n hx hb dX0_log_8 rfl (lv_at hl 1 rfl) ?_
  refine lv_lload hx hb dX0_log_9 (lv_at hl 0 rfl) ?_
  refine lv_iload_n hx hb dX0_log_11 rfl (lv_at hl 2 rfl) ?_
  refine lv_iload_n hx hb dX0_log_12 rfl (lv_at hl 3 rfl) ?_
  refine lv_aload_n hx hb dX0_log_13 rfl (lv_at hl 1 rfl) ?_
  refine lv_lload hx hb dX0_log_14 (lv_at hl 0 rfl) ?_
  refine lv_iload_n hx hb dX0_log_16 rfl (lv_at hl 2 rfl) ?_
  refine lv_lload_n hx hb dX0_log_17 rfl (lv_at hl 4 rfl) ?_
  refine vp_callSl (W.runV (As := [.long (xf_refusalOf (x0, x1, x2, x3, x4, x5, x6, x7, x8, x9, x10, x11, x12, x13) p1 p2), .int p1, .long p3]) (rest := [.int p2, .int p1, .long (xf_refusalOf (x0, x1, x2, x3, x4, x5, x6, x7, x8, x9, x10, x11, x12, x13) p1 p2), .ref (ad 0)]) ⟨hx, hb, hml, hown, hts⟩ (xk_replyTo l D ad cd (x0, x1, x2, x3, x4, x5, x6, x7, x8, x9, x10, x11, x12, x13) (xf_refusalOf (x0, x1, x2, x3, x4, x5, x6, x7, x8, x9, x10, x11, x12, x13) p1 p2) p1 p3 (xro_in _ _ _)) (cwV 3 hts gX0_log_X0_replyTo rfl rfl rfl (by decide +kernel) ⟨Nat.le_of_ble_eq_true rfl, Nat.le_of_ble_eq_true rfl⟩) ⟨fun a U g mk q => ⟨q.1, q.2.1, va_K.moved (u := U) (U := U.calling g mk a) (Vm.Alike.refl U.vm) q.2.2⟩, va_recv hK hP (ci := 0) (q0 := 0) rfl rfl, fun U hU hW => ⟨rfl, by rw [hU]; exact hP, va_K.moved hW.alike hK⟩⟩ rfl rfl hl.1 rfl (lv_room (Nat.le_of_ble_eq_true rfl)) dX0_log_18 ⟨Nat.zero_le _, Nat.zero_le _⟩) (fun r_18 hr_18 => ?_)
  subst hr_18
  refine vp_callSl (W.runV (As := [.long (xf_refusalOf (x0, x1, x2, x3, x4, x5, x6, x7, x8, x9, x10, x11, x12, x13) p1 p2), .int p1, .int p2, .long (xf_replyTo (x0, x1, x2, x3, x4, x5, x6, x7, x8, x9, x10, x11, x12, x13) (xf_refusalOf (x0, x1, x2, x3, x4, x5, x6, x7, x8, x9, x10, x11, x12, x13) p1 p2) p1 p3)]) (rest := []) ⟨hx, hb, hml, hown, hts⟩ (xk_logBehind l D ad cd (x0, x1, x2, x3, x4, x5, x6, x7, x8, x9, x10, x11, x12, x13) (xf_refusalOf (x0, x1, x2, x3, x4, x5, x6, x7, x8, x9, x10, x11, x12, x13) p1 p2) p1 p2 (xf_replyTo (x0, x1, x2, x3, x4, x5, x6, x7, x8, x9, x10, x11, x12, x13) (xf_refusalOf (x0, x1, x2, x3, x4, x5, x6, x7, x8, x9, x10, x11, x12, x13) p1 p2) p1 p3) (xro_in _ _ _)) (cwV 4 hts gX0_log_X0_logBehind rfl rfl rfl (by decide +kernel) ⟨Nat.le_of_ble_eq_true rfl, Nat.le_of_ble_eq_true rfl⟩) ⟨fun a U g mk q => ⟨q.1, q.2.1, va_K.moved (u := U) (U := U.calling g mk a) (Vm.Alike.refl U.vm) q.2.2⟩, va_recv hK hP (ci := 0) (q0 := 0) rfl rfl, fun U hU hW => ⟨rfl, by rw [hU]; exact hP, va_K.moved hW.alike hK⟩⟩ rfl rfl hl.1 rfl (lv_room (Nat.le_of_ble_eq_true rfl)) dX0_log_21 ⟨Nat.zero_le _, Nat.zero_le _⟩) (fun r_21 hr_21 => ?_)
  subst hr_21
  exact W.lret (v := (xf_logBehind (x0, x1, x2, x3, x4, x5, x6, x7, x8, x9, x10, x11, x12, x13) (xf_refusalOf (x0, x1, x2, x3, x4, x5, x6, x7, x8, x9, x10, x11, x12, x13) p1 p2) p1 p2 (xf_replyTo (x0, x1, x2, x3, x4, x5, x6, x7, x8, x9, x10, x11, x12, x13) (xf_refusalOf (x0, x1, x2, x3, x4, x5, x6, x7, x8, x9, x10, x11, x12, x13) p1 p2) p1 p3))) hx hb hr (fun t ht hW => ⟨(xf_logBehind (x0, x1, x2, x3, x4, x5, x6, x7, x8, x9, x10, x11, x12, x13) (xf_refusalOf (x0, x1, x2, x3, x4, x5, x6, x7, x8, x9, x10, x11, x12, x13) p1 p2) p1 p2 (xf_replyTo (x0, x1, x2, x3, x4, x5, x6, x7, x8, x9, x10, x11, x12, x13) (xf_refusalOf (x0, x1, x2, x3, x4, x5, x6, x7, x8, x9, x10, x11, x12, x13) p1 p2) p1 p3)), rfl, (by simp only [xf_log]), ht⟩) (fun _ h => by cases h) dX0_log_24
end
section
def xf_settle (u : XS) (p1 : Int64) (p3 : Int32) (p4 : Int32) : XS := match u with
  | (x0, x1, x2, x3, x4, x5, x6, x7, x8, x9, x10, x11, x12, x13) => if (lg_cmp p1 0) = 0 then (if (x4 (p3).toNatClampNeg) = 0 then ((x0, x1, x2, x3, x4, 0, 0, (x7 + 1), x8, x9, x10, x11, x12, x13)) else ((x0, x1, x2, x3, x4, x5, x6, x7, x8, (x9 + 1), (x4 (p3).toNatClampNeg), p4, p3, x13))) else ((x0, x1, x2, x3, x4, x5, x6, x7, (x8 + 1), x9, x10, x11, x12, x13))
set_option maxHeartbeats 4000000 in
set_option maxRecDepth 100000 in
theorem xk_settle (l : Launch) (D : va_G) (ad : Nat → Nat) (cd : Nat → ClassId) (u : XS) (sz : Nat) (p1 : Int64) (p3 : Int32) (p4 : Int32) (h1 : lg_cmp p1 0 = 0 → vp_in p3 20) : Met l yX0_settle wsX0_settle ({ frames := 0, cells := 0, slots := 0, locals := 0 }) (xPc D ad cd u sz [.long p1, .int p3, .int p4]) (va_Qv (fun u2 => u2 = xf_settle u p1 p3 p4) (xat D ad cd (va_A (xw ad cd u) sz)) (va_A (xw ad cd u) sz)) 0 0 (va_A (xw ad cd u) sz) := by
  obtain ⟨x0, x1, x2, x3, x4, x5, x6, x7, x8, x9, x10, x11, x12, x13⟩ := u
  refine Met.ofW (cc := cX0_settle) (maxL := 5) (ret := none) (by decide) rfl ?_
  intro p e s m args below meth c s₁ B hml hv
  obtain ⟨rfl, hsz, hP, hK, hD0⟩ := hv
  have hx := B.exec
  have hb := B.bytes
  have hr := B.returns
  have hts := atoms_spec (ws := wsX0_settle) B.pre
  have hown : s.vm.findClass RX0 = some m.cls := findClass_of_methodNamed B.named
  have hlocks := B.notSynchronized
  subst hsz
  have hD := hD0.self (sz := s.heap.size)
  generalize hAe : va_A (xw ad cd (x0, x1, x2, x3, x4, x5, x6, x7, x8, x9, x10, x11, x12, x13)) s.heap.size = A at hD ⊢
  have hA : ∀ q : Nat, s.heap.size ≤ q → A q := fun q h => by rw [← hAe]; exact Or.inr h
  have hS : va_S A s.heap s.heap [] := va_S.rf
  have hP : va_P D vwCl (xw ad cd (x0, x1, x2, x3, x4, x5, x6, x7, x8, x9, x10, x11, x12, x13)) s.heap := hP
  have hl := lv_entry ([.ref (ad 0), .long p1, .int p3, .int p4]) (n := 5) (Nat.le_of_ble_eq_true rfl)
  rw [lg_entry_eq]
  generalize (lg_sl ([.ref (ad 0), .long p1, .int p3, .int p4]) ++ List.replicate (5 - (lg_sl ([.ref (ad 0), .long p1, .int p3, .int p4])).length) Slot.unset).toArray = ls at hl ⊢
  have hl : lv_has ls 5 [(0, .ref (ad 0)), (1, .long p1), (3, .int p3), (4, .int p4)] := hl
  refine lv_lload_n hx hb dX0_settle_0 rfl (lv_at hl 1 rfl) ?_
  refine lv_lconst (v := 0) hx hb dX0_settle_1 (by decide) ?_
  refine W.lcmp hx hb dX0_settle_2 ?_
  refine lv_if_eq (tgt := 19) hx hb dX0_settle_3 (by decide) (fun c_3 => ?_) (fun c_3 => ?_)
  · refine lv_aload_n hx hb dX0_settle_19 rfl (lv_at hl 0 rfl) ?_
    refine va_get (D := D) (ci := 0) (v := .ref (ad 5)) (C := RX0) (T := TX0) (N := 14) hx hb hts (fun _ h => List.mem_cons_of_mem _ (List.mem_append_right _ h)) hown hK hP 0 rfl rfl 4 (by decide) (hts (.fieldLink RX0 24 "PostDesk2" "failures" "[I") (by decide +kernel)) (fun _ h9 => h9) rfl dX0_settle_20 ?_
    refine lv_iload_n hx hb dX0_settle_23 rfl (lv_at hl 2 rfl) ?_
    refine va_iald hx hb hK hP 5 4 rfl rfl (h1 c_3) dX0_settle_24 ?_
    refine lv_if_eq (tgt := 62) hx hb dX0_settle_25 (by decide) (fun c_25 => ?_) (fun c_25 => ?_)
    · refine lv_aload_n hx hb dX0_settle_62 rfl (lv_at hl 0 rfl) ?_
      refine lv_dup hx hb dX0_settle_63 rfl ?_
      refine va_get (D := D) (ci := 0) (v := .long x7) (C := RX0) (T := TX0) (N := 14) hx hb hts (fun _ h => List.mem_cons_of_mem _ (List.mem_append_right _ h)) hown hK hP 0 rfl rfl 7 (by decide) (hts (.fieldLink RX0 35 "PostDesk2" "answeredCalls" "J") (by decide +kernel)) (fun _ h9 => h9) rfl dX0_settle_64 ?_
      refine lv_lconst (v := 1) hx hb dX0_settle_67 (by decide) ?_
      refine lv_ladd hx hb dX0_settle_68 ?_
      refine va_put (D := D) (ci := 0) (v := .long (x7 + 1)) (ty := .long) (C := RX0) (T := TX0) (N := 14) hx hb hts (fun _ h => List.mem_cons_of_mem _ (List.mem_append_right _ h)) tyX0 tyX0_ok nmX0 hown hK hP hD hS 0 rfl rfl 7 (by decide) (hts (.fieldLink RX0 35 "PostDesk2" "answeredCalls" "J") (by decide +kernel)) (fun _ h9 => h9) rfl (by decide +kernel) rfl rfl (Nat.le_of_ble_eq_true rfl) dX0_settle_69 (fun H locs hP hD hS => ?_)
      have hP : va_P D vwCl (xw ad cd (x0, x1, x2, x3, x4, x5, x6, (x7 + 1), x8, x9, x10, x11, x12, x13)) H := hP
      have hD : va_D A (xw ad cd (x0, x1, x2, x3, x4, x5, x6, (x7 + 1), x8, x9, x10, x11, x12, x13)) := hD
      refine lv_aload_n hx hb dX0_settle_72 rfl (lv_at hl 0 rfl) ?_
      refine lv_iconst (v := 0) hx hb dX0_settle_73 (by decide) ?_
      refine va_put (D := D) (ci := 0) (v := .int 0) (ty := .int) (C := RX0) (T := TX0) (N := 14) hx hb hts (fun _ h => List.mem_cons_of_mem _ (List.mem_append_right _ h)) tyX0 tyX0_ok nmX0 hown hK hP hD hS 0 rfl rfl 5 (by decide) (hts (.fieldLink RX0 27 "PostDesk2" "collected" "I") (by decide +kernel)) (fun _ h9 => h9) rfl (by decide +kernel) rfl rfl (Nat.le_of_ble_eq_true rfl) dX0_settle_74 (fun H locs hP hD hS => ?_)
      have hP : va_P D vwCl (xw ad cd (x0, x1, x2, x3, x4, 0, x6, (x7 + 1), x8, x9, x10, x11, x12, x13)) H := hP
      have hD : va_D A (xw ad cd (x0, x1, x2, x3, x4, 0, x6, (x7 + 1), x8, x9, x10, x11, x12, x13)) := hD
      refine lv_aload_n hx hb dX0_settle_77 rfl (lv_at hl 0 rfl) ?_
      refine lv_lconst (v := 0) hx hb dX0_settle_78 (by decide) ?_
      refine va_put (D := D) (ci := 0) (v := .long 0) (ty := .long) (C := RX0) (T := TX0) (N := 14) hx hb hts (fun _ h => List.mem_cons_of_mem _ (List.mem_append_right _ h)) tyX0 tyX0_ok nmX0 hown hK hP hD hS 0 rfl rfl 6 (by decide) (hts (.fieldLink RX0 31 "PostDesk2" "digest" "J") (by decide +kernel)) (fun _ h9 => h9) rfl (by decide +kernel) rfl rfl (Nat.le_of_ble_eq_true rfl) dX0_settle_79 (fun H locs hP hD hS => ?_)
      have hP : va_P D vwCl (xw ad cd (x0, x1, x2, x3, x4, 0, 0, (x7 + 1), x8, x9, x10, x11, x12, x13)) H := hP
      have hD : va_D A (xw ad cd (x0, x1, x2, x3, x4, 0, 0, (x7 + 1), x8, x9, x10, x11, x12, x13)) := hD
      exact W.vret hx hb hr (fun t ht hW => ⟨⟨(x0, x1, x2, x3, x4, 0, 0, (x7 + 1), x8, x9, x10, x11, x12, x13), rfl, (by simp only [xf_settle, if_pos c_3, if_pos c_25]), by rw [ht]; exact hP, va_K.moved hW.alike hK, hD⟩, hS.F ht⟩) hS.2.2 dX0_settle_82
    · refine lv_aload_n hx hb dX0_settle_28 rfl (lv_at hl 0 rfl) ?_
      refine lv_dup hx hb dX0_settle_29 rfl ?_
      refine va_get (D := D) (ci := 0) (v := .long x9) (C := RX0) (T := TX0) (N := 14) hx hb hts (fun _ h => List.mem_cons_of_mem _ (List.mem_append_right _ h)) hown hK hP 0 rfl rfl 9 (by decide) (hts (.fieldLink RX0 41 "PostDesk2" "failedCalls" "J") (by decide +kernel)) (fun _ h9 => h9) rfl dX0_settle_30 ?_
      refine lv_lconst (v := 1) hx hb dX0_settle_33 (by decide) ?_
      refine lv_ladd hx hb dX0_settle_34 ?_
      refine va_put (D := D) (ci := 0) (v := .long (x9 + 1)) (ty := .long) (C := RX0) (T := TX0) (N := 14) hx hb hts (fun _ h => List.mem_cons_of_mem _ (List.mem_append_right _ h)) tyX0 tyX0_ok nmX0 hown hK hP hD hS 0 rfl rfl 9 (by decide) (hts (.fieldLink RX0 41 "PostDesk2" "failedCalls" "J") (by decide +kernel)) (fun _ h9 => h9) rfl (by decide +kernel) rfl rfl (Nat.le_of_ble_eq_true rfl) dX0_settle_35 (fun H locs hP hD hS => ?_)
      have hP : va_P D vwCl (xw ad cd (x0, x1, x2, x3, x4, x5, x6, x7, x8, (x9 + 1), x10, x11, x12, x13)) H := hP
      have hD : va_D A (xw ad cd (x0, x1, x2, x3, x4, x5, x6, x7, x8, (x9 + 1), x10, x11, x12, x13)) := hD
      refine lv_aload_n hx hb dX0_settle_38 rfl (lv_at hl 0 rfl) ?_
      refine lv_aload_n hx hb dX0_settle_39 rfl (lv_at hl 0 rfl) ?_
      refine va_get (D := D) (ci := 0) (v := .ref (ad 5)) (C := RX0) (T := TX0) (N := 14) hx hb hts (fun _ h => List.mem_cons_of_mem _ (List.mem_append_right _ h)) hown hK hP 0 rfl rfl 4 (by decide) (hts (.fieldLink RX0 24 "PostDesk2" "failures" "[I") (by decide +kernel)) (fun _ h9 => h9) rfl dX0_settle_40 ?_
      refine lv_iload_n hx hb dX0_settle_43 rfl (lv_at hl 2 rfl) ?_
      refine va_iald hx hb hK hP 5 4 rfl rfl (h1 c_3) dX0_settle_44 ?_
      refine va_put (D := D) (ci := 0) (v := .int (x4 (p3).toNatClampNeg)) (ty := .int) (C := RX0) (T := TX0) (N := 14) hx hb hts (fun _ h => List.mem_cons_of_mem _ (List.mem_append_right _ h)) tyX0 tyX0_ok nmX0 hown hK hP hD hS 0 rfl rfl 10 (by decide) (hts (.fieldLink RX0 44 "PostDesk2" "latestFailure" "I") (by decide +kernel)) (fun _ h9 => h9) rfl (by decide +kernel) rfl rfl (Nat.le_of_ble_eq_true rfl) dX0_settle_45 (fun H locs hP hD hS => ?_)
      have hP : va_P D vwCl (xw ad cd (x0, x1, x2, x3, x4, x5, x6, x7, x8, (x9 + 1), (x4 (p3).toNatClampNeg), x11, x12, x13)) H := hP
      have hD : va_D A (xw ad cd (x0, x1, x2, x3, x4, x5, x6, x7, x8, (x9 + 1), (x4 (p3).toNatClampNeg), x11, x12, x13)) := hD
      refine lv_aload_n hx hb dX0_settle_48 rfl (lv_at hl 0 rfl) ?_
      refine lv_iload hx hb dX0_settle_49 (lv_at hl 3 rfl) ?_
      refine va_put (D := D) (ci := 0) (v := .int p4) (ty := .int) (C := RX0) (T := TX0) (N := 14) hx hb hts (fun _ h => List.mem_cons_of_mem _ (List.mem_append_right _ h)) tyX0 tyX0_ok nmX0 hown hK hP hD hS 0 rfl rfl 11 (by decide) (hts (.fieldLink RX0 47 "PostDesk2" "latestNumber" "I") (by decide +kernel)) (fun _ h9 => h9) rfl (by decide +kernel) rfl rfl (Nat.le_of_ble_eq_true rfl) dX0_settle_51 (fun H locs hP hD hS => ?_)
      have hP : va_P D vwCl (xw ad cd (x0, x1, x2, x3, x4, x5, x6, x7, x8, (x9 + 1), (x4 (p3).toNatClampNeg), p4, x12, x13)) H := hP
      have hD : va_D A (xw ad cd (x0, x1, x2, x3, x4, x5, x6, x7, x8, (x9 + 1), (x4 (p3).toNatClampNeg), p4, x12, x13)) := hD
      refine lv_aload_n hx hb dX0_settle_54 rfl (lv_at hl 0 rfl) ?_
      refine lv_iload_n hx hb dX0_settle_55 rfl (lv_at hl 2 rfl) ?_
      refine va_put (D := D) (ci := 0) (v := .int p3) (ty := .int) (C := RX0) (T := TX0) (N := 14) hx hb hts (fun _ h => List.mem_cons_of_mem _ (List.mem_append_right _ h)) tyX0 tyX0_ok nmX0 hown hK hP hD hS 0 rfl rfl 12 (by decide) (hts (.fieldLink RX0 50 "PostDesk2" "latestCall" "I") (by decide +kernel)) (fun _ h9 => h9) rfl (by decide +kernel) rfl rfl (Nat.le_of_ble_eq_true rfl) dX0_settle_56 (fun H locs hP hD hS => ?_)
      have hP : va_P D vwCl (xw ad cd (x0, x1, x2, x3, x4, x5, x6, x7, x8, (x9 + 1), (x4 (p3).toNatClampNeg), p4, p3, x13)) H := hP
      have hD : va_D A (xw ad cd (x0, x1, x2, x3, x4, x5, x6, x7, x8, (x9 + 1), (x4 (p3).toNatClampNeg), p4, p3, x13)) := hD
      refine lv_goto (tgt := 82) hx hb dX0_settle_59 (by decide) ?_
      exact W.vret hx hb hr (fun t ht hW => ⟨⟨(x0, x1, x2, x3, x4, x5, x6, x7, x8, (x9 + 1), (x4 (p3).toNatClampNeg), p4, p3, x13), rfl, (by simp only [xf_settle, if_pos c_3, if_neg c_25]), by rw [ht]; exact hP, va_K.moved hW.alike hK, hD⟩, hS.F ht⟩) hS.2.2 dX0_settle_82
  · refine lv_aload_n hx hb dX0_settle_6 rfl (lv_at hl 0 rfl) ?_
    refine lv_dup hx hb dX0_settle_7 rfl ?_
    refine va_get (D := D) (ci := 0) (v := .long x8) (C := RX0) (T := TX0) (N := 14) hx hb hts (fun _ h => List.mem_cons_of_mem _ (List.mem_append_right _ h)) hown hK hP 0 rfl rfl 8 (by decide) (hts (.fieldLink RX0 38 "PostDesk2" "refusedCalls" "J") (by decide +kernel)) (fun _ h9 => h9) rfl dX0_settle_8 ?_
    refine lv_lconst (v := 1) hx hb dX0_settle_11 (by decide) ?_
    refine lv_ladd hx hb dX0_settle_12 ?_
    refine va_put (D := D) (ci := 0) (v := .long (x8 + 1)) (ty := .long) (C := RX0) (T := TX0) (N := 14) hx hb hts (fun _ h => List.mem_cons_of_mem _ (List.mem_append_right _ h)) tyX0 tyX0_ok nmX0 hown hK hP hD hS 0 rfl rfl 8 (by decide) (hts (.fieldLink RX0 38 "PostDesk2" "refusedCalls" "J") (by decide +kernel)) (fun _ h9 => h9) rfl (by decide +kernel) rfl rfl (Nat.le_of_ble_eq_true rfl) dX0_settle_13 (fun H locs hP hD hS => ?_)
    have hP : va_P D vwCl (xw ad cd (x0, x1, x2, x3, x4, x5, x6, x7, (x8 + 1), x9, x10, x11, x12, x13)) H := hP
    have hD : va_D A (xw ad cd (x0, x1, x2, x3, x4, x5, x6, x7, (x8 + 1), x9, x10, x11, x12, x13)) := hD
    refine lv_goto (tgt := 82) hx hb dX0_settle_16 (by decide) ?_
    exact W.vret hx hb hr (fun t ht hW => ⟨⟨(x0, x1, x2, x3, x4, x5, x6, x7, (x8 + 1), x9, x10, x11, x12, x13), rfl, (by simp only [xf_settle, if_neg c_3]), by rw [ht]; exact hP, va_K.moved hW.alike hK, hD⟩, hS.F ht⟩) hS.2.2 dX0_settle_82
def xf_collect (u : XS) (p1 : Int64) : Int32 × XS := match u with
  | (x0, x1, x2, x3, x4, x5, x6, x7, x8, x9, x10, x11, x12, x13) => if x5 < 40 then (((x5 + 1), (x0, x1, x2, x3, x4, (x5 + 1), ((31 * x6) + p1), x7, x8, x9, x10, x11, x12, x13))) else (((-14), (x0, x1, x2, x3, x4, x5, x6, x7, x8, x9, x10, x11, x12, x13)))
set_option maxHeartbeats 4000000 in
set_option maxRecDepth 100000 in
theorem xk_collect (l : Launch) (D : va_G) (ad : Nat → Nat) (cd : Nat → ClassId) (u : XS) (sz : Nat) (p1 : Int64)  : Met l yX0_collect wsX0_collect ({ frames := 0, cells := 0, slots := 0, locals := 0 }) (xPc D ad cd u sz [.long p1]) (va_Qi (fun r u2 => (r, u2) = xf_collect u p1) (xat D ad cd (va_A (xw ad cd u) sz)) (va_A (xw ad cd u) sz)) 0 0 (va_A (xw ad cd u) sz) := by
  obtain ⟨x0, x1, x2, x3, x4, x5, x6, x7, x8, x9, x10, x11, x12, x13⟩ := u
  refine Met.ofW (cc := cX0_collect) (maxL := 3) (ret := (some .int)) (by decide) rfl ?_
  intro p e s m args below meth c s₁ B hml hv
  obtain ⟨rfl, hsz, hP, hK, hD0⟩ := hv
  have hx := B.exec
  have hb := B.bytes
  have hr := B.returns
  have hts := atoms_spec (ws := wsX0_collect) B.pre
  have hown : s.vm.findClass RX0 = some m.cls := findClass_of_methodNamed B.named
  have hlocks := B.notSynchronized
  subst hsz
  have hD := hD0.self (sz := s.heap.size)
  generalize hAe : va_A (xw ad cd (x0, x1, x2, x3, x4, x5, x6, x7, x8, x9, x10, x11, x12, x13)) s.heap.size = A at hD ⊢
  have hA : ∀ q : Nat, s.heap.size ≤ q → A q := fun q h => by rw [← hAe]; exact Or.inr h
  have hS : va_S A s.heap s.heap [] := va_S.rf
  have hP : va_P D vwCl (xw ad cd (x0, x1, x2, x3, x4, x5, x6, x7, x8, x9, x10, x11, x12, x13)) s.heap := hP
  have hl := lv_entry ([.ref (ad 0), .long p1]) (n := 3) (Nat.le_of_ble_eq_true rfl)
  rw [lg_entry_eq]
  generalize (lg_sl ([.ref (ad 0), .long p1]) ++ List.replicate (3 - (lg_sl ([.ref (ad 0), .long p1])).length) Slot.unset).toArray = ls at hl ⊢
  have hl : lv_has ls 3 [(0, .ref (ad 0)), (1, .long p1)] := hl
  refine lv_aload_n hx hb dX0_collect_0 rfl (lv_at hl 0 rfl) ?_
  refine va_get (D := D) (ci := 0) (v := .int x5) (C := RX0) (T := TX0) (N := 14) hx hb hts (fun _ h => List.mem_cons_of_mem _ (List.mem_append_right _ h)) hown hK hP 0 rfl rfl 5 (by decide) (hts (.fieldLink RX0 27 "PostDesk2" "collected" "I") (by decide +kernel)) (fun _ h9 => h9) rfl dX0_collect_1 ?_
  refine lv_bipush (v := 40) hx hb dX0_collect_4 (by decide) ?_
  refine lv_icmp_lt (tgt := 12) hx hb dX0_collect_6 (by decide) (fun c_6 => ?_) (fun c_6 => ?_)
  · refine lv_aload_n hx hb dX0_collect_12 rfl (lv_at hl 0 rfl) ?_
    refine lv_ldc2 (v := 31) hx hb hown (hts (.constantLong RX0 58 31) (by decide +kernel)) dX0_collect_13 ?_
    refine lv_aload_n hx hb dX0_collect_16 rfl (lv_at hl 0 rfl) ?_
    refine va_get (D := D) (ci := 0) (v := .long x6) (C := RX0) (T := TX0) (N := 14) hx hb hts (fun _ h => List.mem_cons_of_mem _ (List.mem_append_right _ h)) hown hK hP 0 rfl rfl 6 (by decide) (hts (.fieldLink RX0 31 "PostDesk2" "digest" "J") (by decide +kernel)) (fun _ h9 => h9) rfl dX0_collect_17 ?_
    refine lv_lmul hx hb dX0_collect_20 ?_
    refine lv_lload_n hx hb dX0_collect_21 rfl (lv_at hl 1 rfl) ?_
    refine lv_ladd hx hb dX0_collect_22 ?_
    refine va_put (D := D) (ci := 0) (v := .long ((31 * x6) + p1)) (ty := .long) (C := RX0) (T := TX0) (N := 14) hx hb hts (fun _ h => List.mem_cons_of_mem _ (List.mem_append_right _ h)) tyX0 tyX0_ok nmX0 hown hK hP hD hS 0 rfl rfl 6 (by decide) (hts (.fieldLink RX0 31 "PostDesk2" "digest" "J") (by decide +kernel)) (fun _ h9 => h9) rfl (by decide +kernel) rfl rfl (Nat.le_of_ble_eq_true rfl) dX0_collect_23 (fun H locs hP hD hS => ?_)
    have hP : va_P D vwCl (xw ad cd (x0, x1, x2, x3, x4, x5, ((31 * x6) + p1), x7, x8, x9, x10, x11, x12, x13)) H := hP
    have hD : va_D A (xw ad cd (x0, x1, x2, x3, x4, x5, ((31 * x6) + p1), x7, x8, x9, x10, x11, x12, x13)) := hD
    refine lv_aload_n hx hb dX0_collect_26 rfl (lv_at hl 0 rfl) ?_
    refine lv_dup hx hb dX0_collect_27 rfl ?_
    refine va_get (D := D) (ci := 0) (v := .int x5) (C := RX0) (T := TX0) (N := 14) hx hb hts (fun _ h => List.mem_cons_of_mem _ (List.mem_append_right _ h)) hown hK hP 0 rfl rfl 5 (by decide) (hts (.fieldLink RX0 27 "PostDesk2" "collected" "I") (by decide +kernel)) (fun _ h9 => h9) rfl dX0_collect_28 ?_
    refine lv_iconst (v := 1) hx hb dX0_collect_31 (by decide) ?_
    refine lv_iadd hx hb dX0_collect_32 ?_
    refine va_put (D := D) (ci := 0) (v := .int (x5 + 1)) (ty := .int) (C := RX0) (T := TX0) (N := 14) hx hb hts (fun _ h => List.mem_cons_of_mem _ (List.mem_append_right _ h)) tyX0 tyX0_ok nmX0 hown hK hP hD hS 0 rfl rfl 5 (by decide) (hts (.fieldLink RX0 27 "PostDesk2" "collected" "I") (by decide +kernel)) (fun _ h9 => h9) rfl (by decide +kernel) rfl rfl (Nat.le_of_ble_eq_true rfl) dX0_collect_33 (fun H locs hP hD hS => ?_)
    have hP : va_P D vwCl (xw ad cd (x0, x1, x2, x3, x4, (x5 + 1), ((31 * x6) + p1), x7, x8, x9, x10, x11, x12, x13)) H := hP
    have hD : va_D A (xw ad cd (x0, x1, x2, x3, x4, (x5 + 1), ((31 * x6) + p1), x7, x8, x9, x10, x11, x12, x13)) := hD
    refine lv_aload_n hx hb dX0_collect_36 rfl (lv_at hl 0 rfl) ?_
    refine va_get (D := D) (ci := 0) (v := .int (x5 + 1)) (C := RX0) (T := TX0) (N := 14) hx hb hts (fun _ h => List.mem_cons_of_mem _ (List.mem_append_right _ h)) hown hK hP 0 rfl rfl 5 (by decide) (hts (.fieldLink RX0 27 "PostDesk2" "collected" "I") (by decide +kernel)) (fun _ h9 => h9) rfl dX0_collect_37 ?_
    exact W.iret (v := (x5 + 1)) hx hb hr (fun t ht hW => ⟨⟨(x5 + 1), (x0, x1, x2, x3, x4, (x5 + 1), ((31 * x6) + p1), x7, x8, x9, x10, x11, x12, x13), rfl, (by simp only [xf_collect, if_pos c_6]), by rw [ht]; exact hP, va_K.moved hW.alike hK, hD⟩, hS.F ht⟩) hS.2.2 dX0_collect_40
  · refine lv_bipush (v := (-14)) hx hb dX0_collect_9 (by decide) ?_
    exact W.iret (v := (-14)) hx hb hr (fun t ht hW => ⟨⟨(-14), (x0, x1, x2, x3, x4, x5, x6, x7, x8, x9, x10, x11, x12, x13), rfl, (by simp only [xf_collect, if_neg c_6]), by rw [ht]; exact hP, va_K.moved hW.alike hK, hD⟩, hS.F ht⟩) hS.2.2 dX0_collect_11
def xf_answer (u : XS) (p1 : Int32) (p2 : Int64) : Int32 × XS := match u with
  | (x0, x1, x2, x3, x4, x5, x6, x7, x8, x9, x10, x11, x12, x13) => if (xf_isCall p1) = 0 then (((-1), (x0, x1, x2, x3, x4, x5, x6, x7, x8, x9, x10, x11, x12, x13))) else ((1, (x0, x1, x2, (vp_updL x3 (p1).toNatClampNeg p2), (upd x4 (p1).toNatClampNeg 0), x5, x6, x7, x8, x9, x10, x11, x12, x13)))
set_option maxHeartbeats 4000000 in
set_option maxRecDepth 100000 in
theorem xk_answer (l : Launch) (D : va_G) (ad : Nat → Nat) (cd : Nat → ClassId) (u : XS) (sz : Nat) (p1 : Int32) (p2 : Int64)  : Met l yX0_answer wsX0_answer ({ frames := 1, cells := 0, slots := 0, locals := 20 }) (xPc D ad cd u sz [.int p1, .long p2]) (va_Qi (fun r u2 => (r, u2) = xf_answer u p1 p2) (xat D ad cd (va_A (xw ad cd u) sz)) (va_A (xw ad cd u) sz)) 0 0 (va_A (xw ad cd u) sz) := by
  obtain ⟨x0, x1, x2, x3, x4, x5, x6, x7, x8, x9, x10, x11, x12, x13⟩ := u
  refine Met.ofW (cc := cX0_answer) (maxL := 4) (ret := (some .int)) (by decide) rfl ?_
  intro p e s m args below meth c s₁ B hml hv
  obtain ⟨rfl, hsz, hP, hK, hD0⟩ := hv
  have hx := B.exec
  have hb := B.bytes
  have hr := B.returns
  have hts := atoms_spec (ws := wsX0_answer) B.pre
  have hown : s.vm.findClass RX0 = some m.cls := findClass_of_methodNamed B.named
  have hlocks := B.notSynchronized
  subst hsz
  have hD := hD0.self (sz := s.heap.size)
  generalize hAe : va_A (xw ad cd (x0, x1, x2, x3, x4, x5, x6, x7, x8, x9, x10, x11, x12, x13)) s.heap.size = A at hD ⊢
  have hA : ∀ q : Nat, s.heap.size ≤ q → A q := fun q h => by rw [← hAe]; exact Or.inr h
  have hS : va_S A s.heap s.heap [] := va_S.rf
  have hP : va_P D vwCl (xw ad cd (x0, x1, x2, x3, x4, x5, x6, x7, x8, x9, x10, x11, x12, x13)) s.heap := hP
  have hl := lv_entry ([.ref (ad 0), .int p1, .long p2]) (n := 4) (Nat.le_of_ble_eq_true rfl)
  rw [lg_entry_eq]
  generalize (lg_sl ([.ref (ad 0), .int p1, .long p2]) ++ List.replicate (4 - (lg_sl ([.ref (ad 0), .int p1, .long p2])).length) Slot.unset).toArray = ls at hl ⊢
  have hl : lv_has ls 4 [(0, .ref (ad 0)), (1, .int p1), (2, .long p2)] := hl
  refine lv_iload_n hx hb dX0_answer_0 rfl (lv_at hl 1 rfl) ?_
  refine vp_callSi (W.runS (As := [.int p1]) (rest := []) ⟨hx, hb, hml, hown, hts⟩ (xk_isCall l p1) (va_cwS 1 hts gX0_answer_X0_isCall rfl rfl rfl (by decide +kernel) ⟨Nat.le_of_ble_eq_true rfl, Nat.le_of_ble_eq_true rfl⟩) ⟨fun a U g mk q => q, fun U hU hW => ⟨rfl, trivial⟩⟩ rfl rfl hl.1 rfl (lv_room (Nat.le_of_ble_eq_true rfl)) dX0_answer_1 ⟨Nat.zero_le _, Nat.zero_le _⟩) (fun r_1 hr_1 => ?_)
  subst hr_1
  refine lv_if_ne (tgt := 9) hx hb dX0_answer_4 (by decide) (fun c_4 => ?_) (fun c_4 => ?_)
  · refine lv_aload_n hx hb dX0_answer_9 rfl (lv_at hl 0 rfl) ?_
    refine va_get (D := D) (ci := 0) (v := .ref (ad 4)) (C := RX0) (T := TX0) (N := 14) hx hb hts (fun _ h => List.mem_cons_of_mem _ (List.mem_append_right _ h)) hown hK hP 0 rfl rfl 3 (by decide) (hts (.fieldLink RX0 20 "PostDesk2" "values" "[J") (by decide +kernel)) (fun _ h9 => h9) rfl dX0_answer_10 ?_
    refine lv_iload_n hx hb dX0_answer_13 rfl (lv_at hl 1 rfl) ?_
    refine lv_lload_n hx hb dX0_answer_14 rfl (lv_at hl 2 rfl) ?_
    refine va_last hx hb hK hP hD hS 4 3 rfl rfl (xkc_in c_4) dX0_answer_15 (fun H locs hP hD hS => ?_)
    have hP : va_P D vwCl (xw ad cd (x0, x1, x2, (vp_updL x3 (p1).toNatClampNeg p2), x4, x5, x6, x7, x8, x9, x10, x11, x12, x13)) H := hP
    have hD : va_D A (xw ad cd (x0, x1, x2, (vp_updL x3 (p1).toNatClampNeg p2), x4, x5, x6, x7, x8, x9, x10, x11, x12, x13)) := hD
    refine lv_aload_n hx hb dX0_answer_16 rfl (lv_at hl 0 rfl) ?_
    refine va_get (D := D) (ci := 0) (v := .ref (ad 5)) (C := RX0) (T := TX0) (N := 14) hx hb hts (fun _ h => List.mem_cons_of_mem _ (List.mem_append_right _ h)) hown hK hP 0 rfl rfl 4 (by decide) (hts (.fieldLink RX0 24 "PostDesk2" "failures" "[I") (by decide +kernel)) (fun _ h9 => h9) rfl dX0_answer_17 ?_
    refine lv_iload_n hx hb dX0_answer_20 rfl (lv_at hl 1 rfl) ?_
    refine lv_iconst (v := 0) hx hb dX0_answer_21 (by decide) ?_
    refine va_iast hx hb hK hP hD hS 5 4 rfl rfl (xkc_in c_4) dX0_answer_22 (fun H locs hP hD hS => ?_)
    have hP : va_P D vwCl (xw ad cd (x0, x1, x2, (vp_updL x3 (p1).toNatClampNeg p2), (upd x4 (p1).toNatClampNeg 0), x5, x6, x7, x8, x9, x10, x11, x12, x13)) H := hP
    have hD : va_D A (xw ad cd (x0, x1, x2, (vp_updL x3 (p1).toNatClampNeg p2), (upd x4 (p1).toNatClampNeg 0), x5, x6, x7, x8, x9, x10, x11, x12, x13)) := hD
    refine lv_iconst (v := 1) hx hb dX0_answer_23 (by decide) ?_
    exact W.iret (v := 1) hx hb hr (fun t ht hW => ⟨⟨1, (x0, x1, x2, (vp_updL x3 (p1).toNatClampNeg p2), (upd x4 (p1).toNatClampNeg 0), x5, x6, x7, x8, x9, x10, x11, x12, x13), rfl, (by simp only [xf_answer, if_neg c_4]), by rw [ht]; exact hP, va_K.moved hW.alike hK, hD⟩, hS.F ht⟩) hS.2.2 dX0_answer_24
  · refine lv_iconst (v := (-1)) hx hb dX0_answer_7 (by decide) ?_
    exact W.iret (v := (-1)) hx hb hr (fun t ht hW => ⟨⟨(-1), (x0, x1, x2, x3, x4, x5, x6, x7, x8, x9, x10, x11, x12, x13), rfl, (by simp only [xf_answer, if_pos c_4]), by rw [ht]; exact hP, va_K.moved hW.alike hK, hD⟩, hS.F ht⟩) hS.2.2 dX0_answer_8
def xf_fails (u : XS) (p1 : Int32) (p2 : Int32) : Int32 × XS := match u with
  | (x0, x1, x2, x3, x4, x5, x6, x7, x8, x9, x10, x11, x12, x13) => if (xf_isCall p1) = 0 then (((-1), (x0, x1, x2, x3, x4, x5, x6, x7, x8, x9, x10, x11, x12, x13))) else (if p2 < 0 then (((-1), (x0, x1, x2, x3, x4, x5, x6, x7, x8, x9, x10, x11, x12, x13))) else (if p2 ≤ 3 then ((1, (x0, x1, x2, x3, (upd x4 (p1).toNatClampNeg p2), x5, x6, x7, x8, x9, x10, x11, x12, x13))) else (((-1), (x0, x1, x2, x3, x4, x5, x6, x7, x8, x9, x10, x11, x12, x13)))))
set_option maxHeartbeats 4000000 in
set_option maxRecDepth 100000 in
theorem xk_fails (l : Launch) (D : va_G) (ad : Nat → Nat) (cd : Nat → ClassId) (u : XS) (sz : Nat) (p1 : Int32) (p2 : Int32)  : Met l yX0_fails wsX0_fails ({ frames := 1, cells := 0, slots := 0, locals := 20 }) (xPc D ad cd u sz [.int p1, .int p2]) (va_Qi (fun r u2 => (r, u2) = xf_fails u p1 p2) (xat D ad cd (va_A (xw ad cd u) sz)) (va_A (xw ad cd u) sz)) 0 0 (va_A (xw ad cd u) sz) := by
  obtain ⟨x0, x1, x2, x3, x4, x5, x6, x7, x8, x9, x10, x11, x12, x13⟩ := u
  refine Met.ofW (cc := cX0_fails) (maxL := 3) (ret := (some .int)) (by decide) rfl ?_
  intro p e s m args below meth c s₁ B hml hv
  obtain ⟨rfl, hsz, hP, hK, hD0⟩ := hv
  have hx := B.exec
  have hb := B.bytes
  have hr := B.returns
  have hts := atoms_spec (ws := wsX0_fails) B.pre
  have hown : s.vm.findClass RX0 = some m.cls := findClass_of_methodNamed B.named
  have hlocks := B.notSynchronized
  subst hsz
  have hD := hD0.self (sz := s.heap.size)
  generalize hAe : va_A (xw ad cd (x0, x1, x2, x3, x4, x5, x6, x7, x8, x9, x10, x11, x12, x13)) s.heap.size = A at hD ⊢
  have hA : ∀ q : Nat, s.heap.size ≤ q → A q := fun q h => by rw [← hAe]; exact Or.inr h
  have hS : va_S A s.heap s.heap [] := va_S.rf
  have hP : va_P D vwCl (xw ad cd (x0, x1, x2, x3, x4, x5, x6, x7, x8, x9, x10, x11, x12, x13)) s.heap := hP
  have hl := lv_entry ([.ref (ad 0), .int p1, .int p2]) (n := 3) (Nat.le_of_ble_eq_true rfl)
  rw [lg_entry_eq]
  generalize (lg_sl ([.ref (ad 0), .int p1, .int p2]) ++ List.replicate (3 - (lg_sl ([.ref (ad 0), .int p1, .int p2])).length) Slot.unset).toArray = ls at hl ⊢
  have hl : lv_has ls 3 [(0, .ref (ad 0)), (1, .int p1), (2, .int p2)] := hl
  refine lv_iload_n hx hb dX0_fails_0 rfl (lv_at hl 1 rfl) ?_
  refine vp_callSi (W.runS (As := [.int p1]) (rest := []) ⟨hx, hb, hml, hown, hts⟩ (xk_isCall l p1) (va_cwS 1 hts gX0_fails_X0_isCall rfl rfl rfl (by decide +kernel) ⟨Nat.le_of_ble_eq_true rfl, Nat.le_of_ble_eq_true rfl⟩) ⟨fun a U g mk q => q, fun U hU hW => ⟨rfl, trivial⟩⟩ rfl rfl hl.1 rfl (lv_room (Nat.le_of_ble_eq_true rfl)) dX0_fails_1 ⟨Nat.zero_le _, Nat.zero_le _⟩) (fun r_1 hr_1 => ?_)
  subst hr_1
  refine lv_if_eq (tgt := 16) hx hb dX0_fails_4 (by decide) (fun c_4 => ?_) (fun c_4 => ?_)
  · refine lv_iconst (v := (-1)) hx hb dX0_fails_16 (by decide) ?_
    exact W.iret (v := (-1)) hx hb hr (fun t ht hW => ⟨⟨(-1), (x0, x1, x2, x3, x4, x5, x6, x7, x8, x9, x10, x11, x12, x13), rfl, (by simp only [xf_fails, if_pos c_4]), by rw [ht]; exact hP, va_K.moved hW.alike hK, hD⟩, hS.F ht⟩) hS.2.2 dX0_fails_17
  · refine lv_iload_n hx hb dX0_fails_7 rfl (lv_at hl 2 rfl) ?_
    refine lv_if_lt (tgt := 16) hx hb dX0_fails_8 (by decide) (fun c_8 => ?_) (fun c_8 => ?_)
    · refine lv_iconst (v := (-1)) hx hb dX0_fails_16 (by decide) ?_
      exact W.iret (v := (-1)) hx hb hr (fun t ht hW => ⟨⟨(-1), (x0, x1, x2, x3, x4, x5, x6, x7, x8, x9, x10, x11, x12, x13), rfl, (by simp only [xf_fails, if_neg c_4, if_pos c_8]), by rw [ht]; exact hP, va_K.moved hW.alike hK, hD⟩, hS.F ht⟩) hS.2.2 dX0_fails_17
    · refine lv_iload_n hx hb dX0_fails_11 rfl (lv_at hl 2 rfl) ?_
      refine lv_iconst (v := 3) hx hb dX0_fails_12 (by decide) ?_
      refine lv_icmp_le (tgt := 18) hx hb dX0_fails_13 (by decide) (fun c_13 => ?_) (fun c_13 => ?_)
      · refine lv_aload_n hx hb dX0_fails_18 rfl (lv_at hl 0 rfl) ?_
        refine va_get (D := D) (ci := 0) (v := .ref (ad 5)) (C := RX0) (T := TX0) (N := 14) hx hb hts (fun _ h => List.mem_cons_of_mem _ (List.mem_append_right _ h)) hown hK hP 0 rfl rfl 4 (by decide) (hts (.fieldLink RX0 24 "PostDesk2" "failures" "[I") (by decide +kernel)) (fun _ h9 => h9) rfl dX0_fails_19 ?_
        refine lv_iload_n hx hb dX0_fails_22 rfl (lv_at hl 1 rfl) ?_
        refine lv_iload_n hx hb dX0_fails_23 rfl (lv_at hl 2 rfl) ?_
        refine va_iast hx hb hK hP hD hS 5 4 rfl rfl (xkc_in c_4) dX0_fails_24 (fun H locs hP hD hS => ?_)
        have hP : va_P D vwCl (xw ad cd (x0, x1, x2, x3, (upd x4 (p1).toNatClampNeg p2), x5, x6, x7, x8, x9, x10, x11, x12, x13)) H := hP
        have hD : va_D A (xw ad cd (x0, x1, x2, x3, (upd x4 (p1).toNatClampNeg p2), x5, x6, x7, x8, x9, x10, x11, x12, x13)) := hD
        refine lv_iconst (v := 1) hx hb dX0_fails_25 (by decide) ?_
        exact W.iret (v := 1) hx hb hr (fun t ht hW => ⟨⟨1, (x0, x1, x2, x3, (upd x4 (p1).toNatClampNeg p2), x5, x6, x7, x8, x9, x10, x11, x12, x13), rfl, (by simp only [xf_fails, if_neg c_4, if_neg c_8, if_pos c_13]), by rw [ht]; exact hP, va_K.moved hW.alike hK, hD⟩, hS.F ht⟩) hS.2.2 dX0_fails_26
      · refine lv_iconst (v := (-1)) hx hb dX0_fails_16 (by decide) ?_
        exact W.iret (v := (-1)) hx hb hr (fun t ht hW => ⟨⟨(-1), (x0, x1, x2, x3, x4, x5, x6, x7, x8, x9, x10, x11, x12, x13), rfl, (by simp only [xf_fails, if_neg c_4, if_neg c_8, if_neg c_13]), by rw [ht]; exact hP, va_K.moved hW.alike hK, hD⟩, hS.F ht⟩) hS.2.2 dX0_fails_17
def xf_make (u : XS) (p1 : Int32) : Int32 × XS := match u with
  | (x0, x1, x2, x3, x4, x5, x6, x7, x8, x9, x10, x11, x12, x13) => if (xf_isKind p1) = 0 then (((-1), (x0, x1, x2, x3, x4, x5, x6, x7, x8, x9, x10, x11, x12, x13))) else (if (x0 (p1).toNatClampNeg) < 99 then ((((p1 * 1000) + ((upd x0 (p1).toNatClampNeg ((x0 (p1).toNatClampNeg) + 1)) (p1).toNatClampNeg)), ((upd x0 (p1).toNatClampNeg ((x0 (p1).toNatClampNeg) + 1)), (upd x1 (p1).toNatClampNeg ((x1 (p1).toNatClampNeg) + 1)), (upd x2 (((p1 * 100) + ((upd x0 (p1).toNatClampNeg ((x0 (p1).toNatClampNeg) + 1)) (p1).toNatClampNeg))).toNatClampNeg (vp_nar .boolean 1)), x3, x4, x5, x6, x7, x8, x9, x10, x11, x12, x13))) else (((-14), (x0, x1, x2, x3, x4, x5, x6, x7, x8, x9, x10, x11, x12, x13))))
set_option maxHeartbeats 4000000 in
set_option maxRecDepth 100000 in
theorem xk_make (l : Launch) (D : va_G) (ad : Nat → Nat) (cd : Nat → ClassId) (u : XS) (sz : Nat) (p1 : Int32) (h1 : ∀ j, j < 10 → 0 ≤ u.1 j) : Met l yX0_make wsX0_make ({ frames := 1, cells := 0, slots := 0, locals := 20 }) (xPc D ad cd u sz [.int p1]) (va_Qi (fun r u2 => (r, u2) = xf_make u p1) (xat D ad cd (va_A (xw ad cd u) sz)) (va_A (xw ad cd u) sz)) 0 0 (va_A (xw ad cd u) sz) := by
  obtain ⟨x0, x1, x2, x3, x4, x5, x6, x7, x8, x9, x10, x11, x12, x13⟩ := u
  refine Met.ofW (cc := cX0_make) (maxL := 2) (ret := (some .int)) (by decide) rfl ?_
  intro p e s m args below meth c s₁ B hml hv
  obtain ⟨rfl, hsz, hP, hK, hD0⟩ := hv
  have hx := B.exec
  have hb := B.bytes
  have hr := B.returns
  have hts := atoms_spec (ws := wsX0_make) B.pre
  have hown : s.vm.findClass RX0 = some m.cls := findClass_of_methodNamed B.named
  have hlocks := B.notSynchronized
  subst hsz
  have hD := hD0.self (sz := s.heap.size)
  generalize hAe : va_A (xw ad cd (x0, x1, x2, x3, x4, x5, x6, x7, x8, x9, x10, x11, x12, x13)) s.heap.size = A at hD ⊢
  have hA : ∀ q : Nat, s.heap.size ≤ q → A q := fun q h => by rw [← hAe]; exact Or.inr h
  have hS : va_S A s.heap s.heap [] := va_S.rf
  have hP : va_P D vwCl (xw ad cd (x0, x1, x2, x3, x4, x5, x6, x7, x8, x9, x10, x11, x12, x13)) s.heap := hP
  have hl := lv_entry ([.ref (ad 0), .int p1]) (n := 2) (Nat.le_of_ble_eq_true rfl)
  rw [lg_entry_eq]
  generalize (lg_sl ([.ref (ad 0), .int p1]) ++ List.replicate (2 - (lg_sl ([.ref (ad 0), .int p1])).length) Slot.unset).toArray = ls at hl ⊢
  have hl : lv_has ls 2 [(0, .ref (ad 0)), (1, .int p1)] := hl
  refine lv_iload_n hx hb dX0_make_0 rfl (lv_at hl 1 rfl) ?_
  refine vp_callSi (W.runS (As := [.int p1]) (rest := []) ⟨hx, hb, hml, hown, hts⟩ (xk_isKind l p1) (va_cwS 1 hts gX0_make_X0_isKind rfl rfl rfl (by decide +kernel) ⟨Nat.le_of_ble_eq_true rfl, Nat.le_of_ble_eq_true rfl⟩) ⟨fun a U g mk q => q, fun U hU hW => ⟨rfl, trivial⟩⟩ rfl rfl hl.1 rfl (lv_room (Nat.le_of_ble_eq_true rfl)) dX0_make_1 ⟨Nat.zero_le _, Nat.zero_le _⟩) (fun r_1 hr_1 => ?_)
  subst hr_1
  refine lv_if_ne (tgt := 9) hx hb dX0_make_4 (by decide) (fun c_4 => ?_) (fun c_4 => ?_)
  · refine lv_aload_n hx hb dX0_make_9 rfl (lv_at hl 0 rfl) ?_
    refine va_get (D := D) (ci := 0) (v := .ref (ad 1)) (C := RX0) (T := TX0) (N := 14) hx hb hts (fun _ h => List.mem_cons_of_mem _ (List.mem_append_right _ h)) hown hK hP 0 rfl rfl 0 (by decide) (hts (.fieldLink RX0 9 "PostDesk2" "made" "[I") (by decide +kernel)) (fun _ h9 => h9) rfl dX0_make_10 ?_
    refine lv_iload_n hx hb dX0_make_13 rfl (lv_at hl 1 rfl) ?_
    refine va_iald hx hb hK hP 1 0 rfl rfl (xkk_in c_4) dX0_make_14 ?_
    refine lv_bipush (v := 99) hx hb dX0_make_15 (by decide) ?_
    refine lv_icmp_lt (tgt := 23) hx hb dX0_make_17 (by decide) (fun c_17 => ?_) (fun c_17 => ?_)
    · refine lv_aload_n hx hb dX0_make_23 rfl (lv_at hl 0 rfl) ?_
      refine va_get (D := D) (ci := 0) (v := .ref (ad 1)) (C := RX0) (T := TX0) (N := 14) hx hb hts (fun _ h => List.mem_cons_of_mem _ (List.mem_append_right _ h)) hown hK hP 0 rfl rfl 0 (by decide) (hts (.fieldLink RX0 9 "PostDesk2" "made" "[I") (by decide +kernel)) (fun _ h9 => h9) rfl dX0_make_24 ?_
      refine lv_iload_n hx hb dX0_make_27 rfl (lv_at hl 1 rfl) ?_
      refine lv_dup2_11 hx hb dX0_make_28 rfl rfl ?_
      refine va_iald hx hb hK hP 1 0 rfl rfl (xkk_in c_4) dX0_make_29 ?_
      refine lv_iconst (v := 1) hx hb dX0_make_30 (by decide) ?_
      refine lv_iadd hx hb dX0_make_31 ?_
      refine va_iast hx hb hK hP hD hS 1 0 rfl rfl (xkk_in c_4) dX0_make_32 (fun H locs hP hD hS => ?_)
      have hP : va_P D vwCl (xw ad cd ((upd x0 (p1).toNatClampNeg ((x0 (p1).toNatClampNeg) + 1)), x1, x2, x3, x4, x5, x6, x7, x8, x9, x10, x11, x12, x13)) H := hP
      have hD : va_D A (xw ad cd ((upd x0 (p1).toNatClampNeg ((x0 (p1).toNatClampNeg) + 1)), x1, x2, x3, x4, x5, x6, x7, x8, x9, x10, x11, x12, x13)) := hD
      refine lv_aload_n hx hb dX0_make_33 rfl (lv_at hl 0 rfl) ?_
      refine va_get (D := D) (ci := 0) (v := .ref (ad 2)) (C := RX0) (T := TX0) (N := 14) hx hb hts (fun _ h => List.mem_cons_of_mem _ (List.mem_append_right _ h)) hown hK hP 0 rfl rfl 1 (by decide) (hts (.fieldLink RX0 13 "PostDesk2" "presentOfKind" "[I") (by decide +kernel)) (fun _ h9 => h9) rfl dX0_make_34 ?_
      refine lv_iload_n hx hb dX0_make_37 rfl (lv_at hl 1 rfl) ?_
      refine lv_dup2_11 hx hb dX0_make_38 rfl rfl ?_
      refine va_iald hx hb hK hP 2 1 rfl rfl (xkk_in c_4) dX0_make_39 ?_
      refine lv_iconst (v := 1) hx hb dX0_make_40 (by decide) ?_
      refine lv_iadd hx hb dX0_make_41 ?_
      refine va_iast hx hb hK hP hD hS 2 1 rfl rfl (xkk_in c_4) dX0_make_42 (fun H locs hP hD hS => ?_)
      have hP : va_P D vwCl (xw ad cd ((upd x0 (p1).toNatClampNeg ((x0 (p1).toNatClampNeg) + 1)), (upd x1 (p1).toNatClampNeg ((x1 (p1).toNatClampNeg) + 1)), x2, x3, x4, x5, x6, x7, x8, x9, x10, x11, x12, x13)) H := hP
      have hD : va_D A (xw ad cd ((upd x0 (p1).toNatClampNeg ((x0 (p1).toNatClampNeg) + 1)), (upd x1 (p1).toNatClampNeg ((x1 (p1).toNatClampNeg) + 1)), x2, x3, x4, x5, x6, x7, x8, x9, x10, x11, x12, x13)) := hD
      refine lv_aload_n hx hb dX0_make_43 rfl (lv_at hl 0 rfl) ?_
      refine va_get (D := D) (ci := 0) (v := .ref (ad 3)) (C := RX0) (T := TX0) (N := 14) hx hb hts (fun _ h => List.mem_cons_of_mem _ (List.mem_append_right _ h)) hown hK hP 0 rfl rfl 2 (by decide) (hts (.fieldLink RX0 16 "PostDesk2" "present" "[Z") (by decide +kernel)) (fun _ h9 => h9) rfl dX0_make_44 ?_
      refine lv_iload_n hx hb dX0_make_47 rfl (lv_at hl 1 rfl) ?_
      refine lv_bipush (v := 100) hx hb dX0_make_48 (by decide) ?_
      refine lv_imul hx hb dX0_make_50 ?_
      refine lv_aload_n hx hb dX0_make_51 rfl (lv_at hl 0 rfl) ?_
      refine va_get (D := D) (ci := 0) (v := .ref (ad 1)) (C := RX0) (T := TX0) (N := 14) hx hb hts (fun _ h => List.mem_cons_of_mem _ (List.mem_append_right _ h)) hown hK hP 0 rfl rfl 0 (by decide) (hts (.fieldLink RX0 9 "PostDesk2" "made" "[I") (by decide +kernel)) (fun _ h9 => h9) rfl dX0_make_52 ?_
      refine lv_iload_n hx hb dX0_make_55 rfl (lv_at hl 1 rfl) ?_
      refine va_iald hx hb hK hP 1 0 rfl rfl (xkk_in c_4) dX0_make_56 ?_
      refine lv_iadd hx hb dX0_make_57 ?_
      refine lv_iconst (v := 1) hx hb dX0_make_58 (by decide) ?_
      refine va_zast hx hb hK hP hD hS 3 2 rfl rfl (xmk_in c_4 (h1 _ (xkk_lt c_4)) c_17) dX0_make_59 (fun H locs hP hD hS => ?_)
      have hP : va_P D vwCl (xw ad cd ((upd x0 (p1).toNatClampNeg ((x0 (p1).toNatClampNeg) + 1)), (upd x1 (p1).toNatClampNeg ((x1 (p1).toNatClampNeg) + 1)), (upd x2 (((p1 * 100) + ((upd x0 (p1).toNatClampNeg ((x0 (p1).toNatClampNeg) + 1)) (p1).toNatClampNeg))).toNatClampNeg (vp_nar .boolean 1)), x3, x4, x5, x6, x7, x8, x9, x10, x11, x12, x13)) H := hP
      have hD : va_D A (xw ad cd ((upd x0 (p1).toNatClampNeg ((x0 (p1).toNatClampNeg) + 1)), (upd x1 (p1).toNatClampNeg ((x1 (p1).toNatClampNeg) + 1)), (upd x2 (((p1 * 100) + ((upd x0 (p1).toNatClampNeg ((x0 (p1).toNatClampNeg) + 1)) (p1).toNatClampNeg))).toNatClampNeg (vp_nar .boolean 1)), x3, x4, x5, x6, x7, x8, x9, x10, x11, x12, x13)) := hD
      refine lv_iload_n hx hb dX0_make_60 rfl (lv_at hl 1 rfl) ?_
      refine lv_sipush (v := 1000) hx hb dX0_make_61 (by decide) ?_
      refine lv_imul hx hb dX0_make_64 ?_
      refine lv_aload_n hx hb dX0_make_65 rfl (lv_at hl 0 rfl) ?_
      refine va_get (D := D) (ci := 0) (v := .ref (ad 1)) (C := RX0) (T := TX0) (N := 14) hx hb hts (fun _ h => List.mem_cons_of_mem _ (List.mem_append_right _ h)) hown hK hP 0 rfl rfl 0 (by decide) (hts (.fieldLink RX0 9 "PostDesk2" "made" "[I") (by decide +kernel)) (fun _ h9 => h9) rfl dX0_make_66 ?_
      refine lv_iload_n hx hb dX0_make_69 rfl (lv_at hl 1 rfl) ?_
      refine va_iald hx hb hK hP 1 0 rfl rfl (xkk_in c_4) dX0_make_70 ?_
      refine lv_iadd hx hb dX0_make_71 ?_
      exact W.iret (v := ((p1 * 1000) + ((upd x0 (p1).toNatClampNeg ((x0 (p1).toNatClampNeg) + 1)) (p1).toNatClampNeg))) hx hb hr (fun t ht hW => ⟨⟨((p1 * 1000) + ((upd x0 (p1).toNatClampNeg ((x0 (p1).toNatClampNeg) + 1)) (p1).toNatClampNeg)), ((upd x0 (p1).toNatClampNeg ((x0 (p1).toNatClampNeg) + 1)), (upd x1 (p1).toNatClampNeg ((x1 (p1).toNatClampNeg) + 1)), (upd x2 (((p1 * 100) + ((upd x0 (p1).toNatClampNeg ((x0 (p1).toNatClampNeg) + 1)) (p1).toNatClampNeg))).toNatClampNeg (vp_nar .boolean 1)), x3, x4, x5, x6, x7, x8, x9, x10, x11, x12, x13), rfl, (by simp only [xf_make, if_neg c_4, if_pos c_17]), by rw [ht]; exact hP, va_K.moved hW.alike hK, hD⟩, hS.F ht⟩) hS.2.2 dX0_make_72
    · refine lv_bipush (v := (-14)) hx hb dX0_make_20 (by decide) ?_
      exact W.iret (v := (-14)) hx hb hr (fun t ht hW => ⟨⟨(-14), (x0, x1, x2, x3, x4, x5, x6, x7, x8, x9, x10, x11, x12, x13), rfl, (by simp only [xf_make, if_neg c_4, if_neg c_17]), by rw [ht]; exact hP, va_K.moved hW.alike hK, hD⟩, hS.F ht⟩) hS.2.2 dX0_make_22
  · refine lv_iconst (v := (-1)) hx hb dX0_make_7 (by decide) ?_
    exact W.iret (v := (-1)) hx hb hr (fun t ht hW => ⟨⟨(-1), (x0, x1, x2, x3, x4, x5, x6, x7, x8, x9, x10, x11, x12, x13), rfl, (by simp only [xf_make, if_pos c_4]), by rw [ht]; exact hP, va_K.moved hW.alike hK, hD⟩, hS.F ht⟩) hS.2.2 dX0_make_8
def xf_drop (u : XS) (p1 : Int32) : Int32 × XS := match u with
  | (x0, x1, x2, x3, x4, x5, x6, x7, x8, x9, x10, x11, x12, x13) => if (xf_placeOf p1) = (-1) then ((0, (x0, x1, x2, x3, x4, x5, x6, x7, x8, x9, x10, x11, x12, x13))) else (if (x2 ((xf_placeOf p1)).toNatClampNeg) = 0 then ((0, (x0, x1, x2, x3, x4, x5, x6, x7, x8, x9, x10, x11, x12, x13))) else ((1, (x0, (upd x1 ((p1 / 1000)).toNatClampNeg ((x1 ((p1 / 1000)).toNatClampNeg) - 1)), (upd x2 ((xf_placeOf p1)).toNatClampNeg (vp_nar .boolean 0)), x3, x4, x5, x6, x7, x8, x9, x10, x11, x12, x13))))
set_option maxHeartbeats 4000000 in
set_option maxRecDepth 100000 in
theorem xk_drop (l : Launch) (D : va_G) (ad : Nat → Nat) (cd : Nat → ClassId) (u : XS) (sz : Nat) (p1 : Int32)  : Met l yX0_drop wsX0_drop ({ frames := 2, cells := 0, slots := 0, locals := 42 }) (xPc D ad cd u sz [.int p1]) (va_Qi (fun r u2 => (r, u2) = xf_drop u p1) (xat D ad cd (va_A (xw ad cd u) sz)) (va_A (xw ad cd u) sz)) 0 0 (va_A (xw ad cd u) sz) := by
  obtain ⟨x0, x1, x2, x3, x4, x5, x6, x7, x8, x9, x10, x11, x12, x13⟩ := u
  refine Met.ofW (cc := cX0_drop) (maxL := 3) (ret := (some .boolean)) (by decide) rfl ?_
  intro p e s m args below meth c s₁ B hml hv
  obtain ⟨rfl, hsz, hP, hK, hD0⟩ := hv
  have hx := B.exec
  have hb := B.bytes
  have hr := B.returns
  have hts := atoms_spec (ws := wsX0_drop) B.pre
  have hown : s.vm.findClass RX0 = some m.cls := findClass_of_methodNamed B.named
  have hlocks := B.notSynchronized
  subst hsz
  have hD := hD0.self (sz := s.heap.size)
  generalize hAe : va_A (xw ad cd (x0, x1, x2, x3, x4, x5, x6, x7, x8, x9, x10, x11, x12, x13)) s.heap.size = A at hD ⊢
  have hA : ∀ q : Nat, s.heap.size ≤ q → A q := fun q h => by rw [← hAe]; exact Or.inr h
  have hS : va_S A s.heap s.heap [] := va_S.rf
  have hP : va_P D vwCl (xw ad cd (x0, x1, x2, x3, x4, x5, x6, x7, x8, x9, x10, x11, x12, x13)) s.heap := hP
  have hl := lv_entry ([.ref (ad 0), .int p1]) (n := 3) (Nat.le_of_ble_eq_true rfl)
  rw [lg_entry_eq]
  generalize (lg_sl ([.ref (ad 0), .int p1]) ++ List.replicate (3 - (lg_sl ([.ref (ad 0), .int p1])).length) Slot.unset).toArray = ls at hl ⊢
  have hl : lv_has ls 3 [(0, .ref (ad 0)), (1, .int p1)] := hl
  refine lv_iload_n hx hb dX0_drop_0 rfl (lv_at hl 1 rfl) ?_
  refine vp_callSi (W.runS (As := [.int p1]) (rest := []) ⟨hx, hb, hml, hown, hts⟩ (xk_placeOf l p1) (va_cwS 1 hts gX0_drop_X0_placeOf rfl rfl rfl (by decide +kernel) ⟨Nat.le_of_ble_eq_true rfl, Nat.le_of_ble_eq_true rfl⟩) ⟨fun a U g mk q => q, fun U hU hW => ⟨rfl, trivial⟩⟩ rfl rfl hl.1 rfl (lv_room (Nat.le_of_ble_eq_true rfl)) dX0_drop_1 ⟨Nat.zero_le _, Nat.zero_le _⟩) (fun r_1 hr_1 => ?_)
  subst hr_1
  refine lv_istore_n (lv' := [(2, .int (xf_placeOf p1)), (0, .ref (ad 0)), (1, .int p1)]) hx hb dX0_drop_4 rfl hl (by decide) rfl (fun ls hl => ?_)
  refine lv_iload_n hx hb dX0_drop_5 rfl (lv_at hl 0 rfl) ?_
  refine lv_iconst (v := (-1)) hx hb dX0_drop_6 (by decide) ?_
  refine lv_icmp_eq (tgt := 19) hx hb dX0_drop_7 (by decide) (fun c_7 => ?_) (fun c_7 => ?_)
  · refine lv_iconst (v := 0) hx hb dX0_drop_19 (by decide) ?_
    exact W.zret (v := 0) (ty := .boolean) hx hb hr rfl (fun t ht hW => ⟨⟨0, (x0, x1, x2, x3, x4, x5, x6, x7, x8, x9, x10, x11, x12, x13), rfl, (by simp only [xf_drop, if_pos c_7]), by rw [ht]; exact hP, va_K.moved hW.alike hK, hD⟩, hS.F ht⟩) hS.2.2 dX0_drop_20
  · refine lv_aload_n hx hb dX0_drop_10 rfl (lv_at hl 1 rfl) ?_
    refine va_get (D := D) (ci := 0) (v := .ref (ad 3)) (C := RX0) (T := TX0) (N := 14) hx hb hts (fun _ h => List.mem_cons_of_mem _ (List.mem_append_right _ h)) hown hK hP 0 rfl rfl 2 (by decide) (hts (.fieldLink RX0 16 "PostDesk2" "present" "[Z") (by decide +kernel)) (fun _ h9 => h9) rfl dX0_drop_11 ?_
    refine lv_iload_n hx hb dX0_drop_14 rfl (lv_at hl 0 rfl) ?_
    refine va_zald hx hb hK hP 3 2 rfl rfl (xpl_in c_7) dX0_drop_15 ?_
    refine lv_if_ne (tgt := 21) hx hb dX0_drop_16 (by decide) (fun c_16 => ?_) (fun c_16 => ?_)
    · refine lv_aload_n hx hb dX0_drop_21 rfl (lv_at hl 1 rfl) ?_
      refine va_get (D := D) (ci := 0) (v := .ref (ad 3)) (C := RX0) (T := TX0) (N := 14) hx hb hts (fun _ h => List.mem_cons_of_mem _ (List.mem_append_right _ h)) hown hK hP 0 rfl rfl 2 (by decide) (hts (.fieldLink RX0 16 "PostDesk2" "present" "[Z") (by decide +kernel)) (fun _ h9 => h9) rfl dX0_drop_22 ?_
      refine lv_iload_n hx hb dX0_drop_25 rfl (lv_at hl 0 rfl) ?_
      refine lv_iconst (v := 0) hx hb dX0_drop_26 (by decide) ?_
      refine va_zast hx hb hK hP hD hS 3 2 rfl rfl (xpl_in c_7) dX0_drop_27 (fun H locs hP hD hS => ?_)
      have hP : va_P D vwCl (xw ad cd (x0, x1, (upd x2 ((xf_placeOf p1)).toNatClampNeg (vp_nar .boolean 0)), x3, x4, x5, x6, x7, x8, x9, x10, x11, x12, x13)) H := hP
      have hD : va_D A (xw ad cd (x0, x1, (upd x2 ((xf_placeOf p1)).toNatClampNeg (vp_nar .boolean 0)), x3, x4, x5, x6, x7, x8, x9, x10, x11, x12, x13)) := hD
      refine lv_aload_n hx hb dX0_drop_28 rfl (lv_at hl 1 rfl) ?_
      refine va_get (D := D) (ci := 0) (v := .ref (ad 2)) (C := RX0) (T := TX0) (N := 14) hx hb hts (fun _ h => List.mem_cons_of_mem _ (List.mem_append_right _ h)) hown hK hP 0 rfl rfl 1 (by decide) (hts (.fieldLink RX0 13 "PostDesk2" "presentOfKind" "[I") (by decide +kernel)) (fun _ h9 => h9) rfl dX0_drop_29 ?_
      refine lv_iload_n hx hb dX0_drop_32 rfl (lv_at hl 2 rfl) ?_
      refine lv_sipush (v := 1000) hx hb dX0_drop_33 (by decide) ?_
      refine lv_idiv hx hb dX0_drop_36 (by decide) ?_
      refine lv_dup2_11 hx hb dX0_drop_37 rfl rfl ?_
      refine va_iald hx hb hK hP 2 1 rfl rfl (xpl_kd c_7) dX0_drop_38 ?_
      refine lv_iconst (v := 1) hx hb dX0_drop_39 (by decide) ?_
      refine lv_isub hx hb dX0_drop_40 ?_
      refine va_iast hx hb hK hP hD hS 2 1 rfl rfl (xpl_kd c_7) dX0_drop_41 (fun H locs hP hD hS => ?_)
      have hP : va_P D vwCl (xw ad cd (x0, (upd x1 ((p1 / 1000)).toNatClampNeg ((x1 ((p1 / 1000)).toNatClampNeg) - 1)), (upd x2 ((xf_placeOf p1)).toNatClampNeg (vp_nar .boolean 0)), x3, x4, x5, x6, x7, x8, x9, x10, x11, x12, x13)) H := hP
      have hD : va_D A (xw ad cd (x0, (upd x1 ((p1 / 1000)).toNatClampNeg ((x1 ((p1 / 1000)).toNatClampNeg) - 1)), (upd x2 ((xf_placeOf p1)).toNatClampNeg (vp_nar .boolean 0)), x3, x4, x5, x6, x7, x8, x9, x10, x11, x12, x13)) := hD
      refine lv_iconst (v := 1) hx hb dX0_drop_42 (by decide) ?_
      exact W.zret (v := 1) (ty := .boolean) hx hb hr rfl (fun t ht hW => ⟨⟨1, (x0, (upd x1 ((p1 / 1000)).toNatClampNeg ((x1 ((p1 / 1000)).toNatClampNeg) - 1)), (upd x2 ((xf_placeOf p1)).toNatClampNeg (vp_nar .boolean 0)), x3, x4, x5, x6, x7, x8, x9, x10, x11, x12, x13), rfl, (by simp only [xf_drop, if_neg c_7, if_neg c_16]), by rw [ht]; exact hP, va_K.moved hW.alike hK, hD⟩, hS.F ht⟩) hS.2.2 dX0_drop_43
    · refine lv_iconst (v := 0) hx hb dX0_drop_19 (by decide) ?_
      exact W.zret (v := 0) (ty := .boolean) hx hb hr rfl (fun t ht hW => ⟨⟨0, (x0, x1, x2, x3, x4, x5, x6, x7, x8, x9, x10, x11, x12, x13), rfl, (by simp only [xf_drop, if_neg c_7, if_pos c_16]), by rw [ht]; exact hP, va_K.moved hW.alike hK, hD⟩, hS.F ht⟩) hS.2.2 dX0_drop_20
def xf_call (u : XS) (p1 : Int32) (p2 : Int32) (p3 : Int64) : Int64 × XS := match u with
  | (x0, x1, x2, x3, x4, x5, x6, x7, x8, x9, x10, x11, x12, x13) => if (lg_cmp (xf_refusalOf (x0, x1, x2, x3, x4, x5, x6, x7, x8, x9, x10, x11, x12, x13) p1 p2) (-9000000000000000012)) = 0 then (((-9000000000000000012), (x0, x1, x2, x3, x4, x5, x6, x7, x8, x9, x10, x11, x12, x13))) else (((xf_replyTo (x0, x1, x2, x3, x4, x5, x6, x7, x8, x9, x10, x11, x12, x13) (xf_refusalOf (x0, x1, x2, x3, x4, x5, x6, x7, x8, x9, x10, x11, x12, x13) p1 p2) p1 p3), (xf_settle (x0, x1, x2, x3, x4, x5, x6, x7, x8, x9, x10, x11, x12, (xf_logBehind (x0, x1, x2, x3, x4, x5, x6, x7, x8, x9, x10, x11, x12, x13) (xf_refusalOf (x0, x1, x2, x3, x4, x5, x6, x7, x8, x9, x10, x11, x12, x13) p1 p2) p1 p2 (xf_replyTo (x0, x1, x2, x3, x4, x5, x6, x7, x8, x9, x10, x11, x12, x13) (xf_refusalOf (x0, x1, x2, x3, x4, x5, x6, x7, x8, x9, x10, x11, x12, x13) p1 p2) p1 p3))) (xf_refusalOf (x0, x1, x2, x3, x4, x5, x6, x7, x8, x9, x10, x11, x12, x13) p1 p2) p1 p2)))
set_option maxHeartbeats 4000000 in
set_option maxRecDepth 100000 in
theorem xk_call (l : Launch) (D : va_G) (ad : Nat → Nat) (cd : Nat → ClassId) (u : XS) (sz : Nat) (p1 : Int32) (p2 : Int32) (p3 : Int64)  : Met l yX0_call wsX0_call ({ frames := 4, cells := 0, slots := 0, locals := 86 }) (xPc D ad cd u sz [.int p1, .int p2, .long p3]) (va_Ql (fun r u2 => (r, u2) = xf_call u p1 p2 p3) (xat D ad cd (va_A (xw ad cd u) sz)) (va_A (xw ad cd u) sz)) 0 0 (va_A (xw ad cd u) sz) := by
  obtain ⟨x0, x1, x2, x3, x4, x5, x6, x7, x8, x9, x10, x11, x12, x13⟩ := u
  refine Met.ofW (cc := cX0_call) (maxL := 9) (ret := (some .long)) (by decide) rfl ?_
  intro p e s m args below meth c s₁ B hml hv
  obtain ⟨rfl, hsz, hP, hK, hD0⟩ := hv
  have hx := B.exec
  have hb := B.bytes
  have hr := B.returns
  have hts := atoms_spec (ws := wsX0_call) B.pre
  have hown : s.vm.findClass RX0 = some m.cls := findClass_of_methodNamed B.named
  have hlocks := B.notSynchronized
  subst hsz
  have hD := hD0.self (sz := s.heap.size)
  generalize hAe : va_A (xw ad cd (x0, x1, x2, x3, x4, x5, x6, x7, x8, x9, x10, x11, x12, x13)) s.heap.size = A at hD ⊢
  have hA : ∀ q : Nat, s.heap.size ≤ q → A q := fun q h => by rw [← hAe]; exact Or.inr h
  have hS : va_S A s.heap s.heap [] := va_S.rf
  have hP : va_P D vwCl (xw ad cd (x0, x1, x2, x3, x4, x5, x6, x7, x8, x9, x10, x11, x12, x13)) s.heap := hP
  have hl := lv_entry ([.ref (ad 0), .int p1, .int p2, .long p3]) (n := 9) (Nat.le_of_ble_eq_true rfl)
  rw [lg_entry_eq]
  generalize (lg_sl ([.ref (ad 0), .int p1, .int p2, .long p3]) ++ List.replicate (9 - (lg_sl ([.ref (ad 0), .int p1, .int p2, .long p3])).length) Slot.unset).toArray = ls at hl ⊢
  have hl : lv_has ls 9 [(0, .ref (ad 0)), (1, .int p1), (2, .int p2), (3, .long p3)] := hl
  refine lv_aload_n hx hb dX0_call_0 rfl (lv_at hl 0 rfl) ?_
  refine lv_iload_n hx hb dX0_call_1 rfl (lv_at hl 1 rfl) ?_
  refine lv_iload_n hx hb dX0_call_2 rfl (lv_at hl 2 rfl) ?_
  refine vp_callSl (W.runV (As := [.int p1, .int p2]) (rest := []) ⟨hx, hb, hml, hown, hts⟩ (xk_refusalOf l D ad cd (x0, x1, x2, x3, x4, x5, x6, x7, x8, x9, x10, x11, x12, x13) p1 p2) (cwV 2 hts gX0_call_X0_refusalOf rfl rfl rfl (by decide +kernel) ⟨Nat.le_of_ble_eq_true rfl, Nat.le_of_ble_eq_true rfl⟩) ⟨fun a U g mk q => ⟨q.1, q.2.1, va_K.moved (u := U) (U := U.calling g mk a) (Vm.Alike.refl U.vm) q.2.2⟩, va_recv hK hP (ci := 0) (q0 := 0) rfl rfl, fun U hU hW => ⟨rfl, by rw [hU]; exact hP, va_K.moved hW.alike hK⟩⟩ rfl rfl hl.1 rfl (lv_room (Nat.le_of_ble_eq_true rfl)) dX0_call_3 ⟨Nat.zero_le _, Nat.zero_le _⟩) (fun r_3 hr_3 => ?_)
  subst hr_3
  refine lv_lstore (lv' := [(5, .long (xf_refusalOf (x0, x1, x2, x3, x4, x5, x6, x7, x8, x9, x10, x11, x12, x13) p1 p2)), (0, .ref (ad 0)), (1, .int p1), (2, .int p2), (3, .long p3)]) hx hb dX0_call_6 hl (by decide) rfl (fun ls hl => ?_)
  refine lv_lload hx hb dX0_call_8 (lv_at hl 0 rfl) ?_
  refine lv_ldc2 (v := (-9000000000000000012)) hx hb hown (hts (.constantLong RX0 71 (-9000000000000000012)) (by decide +kernel)) dX0_call_10 ?_
  refine W.lcmp hx hb dX0_call_13 ?_
  refine lv_if_ne (tgt := 21) hx hb dX0_call_14 (by decide) (fun c_14 => ?_) (fun c_14 => ?_)
  · refine lv_aload_n hx hb dX0_call_21 rfl (lv_at hl 1 rfl) ?_
    refine lv_lload hx hb dX0_call_22 (lv_at hl 0 rfl) ?_
    refine lv_iload_n hx hb dX0_call_24 rfl (lv_at hl 2 rfl) ?_
    refine lv_lload_n hx hb dX0_call_25 rfl (lv_at hl 4 rfl) ?_
    refine vp_callSl (W.runV (As := [.long (xf_refusalOf (x0, x1, x2, x3, x4, x5, x6, x7, x8, x9, x10, x11, x12, x13) p1 p2), .int p1, .long p3]) (rest := []) ⟨hx, hb, hml, hown, hts⟩ (xk_replyTo l D ad cd (x0, x1, x2, x3, x4, x5, x6, x7, x8, x9, x10, x11, x12, x13) (xf_refusalOf (x0, x1, x2, x3, x4, x5, x6, x7, x8, x9, x10, x11, x12, x13) p1 p2) p1 p3 (xro_in _ _ _)) (cwV 3 hts gX0_call_X0_replyTo rfl rfl rfl (by decide +kernel) ⟨Nat.le_of_ble_eq_true rfl, Nat.le_of_ble_eq_true rfl⟩) ⟨fun a U g mk q => ⟨q.1, q.2.1, va_K.moved (u := U) (U := U.calling g mk a) (Vm.Alike.refl U.vm) q.2.2⟩, va_recv hK hP (ci := 0) (q0 := 0) rfl rfl, fun U hU hW => ⟨rfl, by rw [hU]; exact hP, va_K.moved hW.alike hK⟩⟩ rfl rfl hl.1 rfl (lv_room (Nat.le_of_ble_eq_true rfl)) dX0_call_26 ⟨Nat.zero_le _, Nat.zero_le _⟩) (fun r_26 hr_26 => ?_)
    subst hr_26
    refine lv_lstore (lv' := [(7, .long (xf_replyTo (x0, x1, x2, x3, x4, x5, x6, x7, x8, x9, x10, x11, x12, x13) (xf_refusalOf (x0, x1, x2, x3, x4, x5, x6, x7, x8, x9, x10, x11, x12, x13) p1 p2) p1 p3)), (5, .long (xf_refusalOf (x0, x1, x2, x3, x4, x5, x6, x7, x8, x9, x10, x11, x12, x13) p1 p2)), (0, .ref (ad 0)), (1, .int p1), (2, .int p2), (3, .long p3)]) hx hb dX0_call_29 hl (by decide) rfl (fun ls hl => ?_)
    refine lv_aload_n hx hb dX0_call_31 rfl (lv_at hl 2 rfl) ?_
    refine lv_aload_n hx hb dX0_call_32 rfl (lv_at hl 2 rfl) ?_
    refine lv_lload hx hb dX0_call_33 (lv_at hl 1 rfl) ?_
    refine lv_iload_n hx hb dX0_call_35 rfl (lv_at hl 3 rfl) ?_
    refine lv_iload_n hx hb dX0_call_36 rfl (lv_at hl 4 rfl) ?_
    refine lv_lload hx hb dX0_call_37 (lv_at hl 0 rfl) ?_
    refine vp_callSl (W.runV (As := [.long (xf_refusalOf (x0, x1, x2, x3, x4, x5, x6, x7, x8, x9, x10, x11, x12, x13) p1 p2), .int p1, .int p2, .long (xf_replyTo (x0, x1, x2, x3, x4, x5, x6, x7, x8, x9, x10, x11, x12, x13) (xf_refusalOf (x0, x1, x2, x3, x4, x5, x6, x7, x8, x9, x10, x11, x12, x13) p1 p2) p1 p3)]) (rest := [.ref (ad 0)]) ⟨hx, hb, hml, hown, hts⟩ (xk_logBehind l D ad cd (x0, x1, x2, x3, x4, x5, x6, x7, x8, x9, x10, x11, x12, x13) (xf_refusalOf (x0, x1, x2, x3, x4, x5, x6, x7, x8, x9, x10, x11, x12, x13) p1 p2) p1 p2 (xf_replyTo (x0, x1, x2, x3, x4, x5, x6, x7, x8, x9, x10, x11, x12, x13) (xf_refusalOf (x0, x1, x2, x3, x4, x5, x6, x7, x8, x9, x10, x11, x12, x13) p1 p2) p1 p3) (xro_in _ _ _)) (cwV 4 hts gX0_call_X0_logBehind rfl rfl rfl (by decide +kernel) ⟨Nat.le_of_ble_eq_true rfl, Nat.le_of_ble_eq_true rfl⟩) ⟨fun a U g mk q => ⟨q.1, q.2.1, va_K.moved (u := U) (U := U.calling g mk a) (Vm.Alike.refl U.vm) q.2.2⟩, va_recv hK hP (ci := 0) (q0 := 0) rfl rfl, fun U hU hW => ⟨rfl, by rw [hU]; exact hP, va_K.moved hW.alike hK⟩⟩ rfl rfl hl.1 rfl (lv_room (Nat.le_of_ble_eq_true rfl)) dX0_call_39 ⟨Nat.zero_le _, Nat.zero_le _⟩) (fun r_39 hr_39 => ?_)
    subst hr_39
    refine va_put (D := D) (ci := 0) (v := .long (xf_logBehind (x0, x1, x2, x3, x4, x5, x6, x7, x8, x9, x10, x11, x12, x13) (xf_refusalOf (x0, x1, x2, x3, x4, x5, x6, x7, x8, x9, x10, x11, x12, x13) p1 p2) p1 p2 (xf_replyTo (x0, x1, x2, x3, x4, x5, x6, x7, x8, x9, x10, x11, x12, x13) (xf_refusalOf (x0, x1, x2, x3, x4, x5, x6, x7, x8, x9, x10, x11, x12, x13) p1 p2) p1 p3))) (ty := .long) (C := RX0) (T := TX0) (N := 14) hx hb hts (fun _ h => List.mem_cons_of_mem _ (List.mem_append_right _ h)) tyX0 tyX0_ok nmX0 hown hK hP hD hS 0 rfl rfl 13 (by decide) (hts (.fieldLink RX0 55 "PostDesk2" "logged" "J") (by decide +kernel)) (fun _ h9 => h9) rfl (by decide +kernel) rfl rfl (Nat.le_of_ble_eq_true rfl) dX0_call_42 (fun H locs hP hD hS => ?_)
    have hP : va_P D vwCl (xw ad cd (x0, x1, x2, x3, x4, x5, x6, x7, x8, x9, x10, x11, x12, (xf_logBehind (x0, x1, x2, x3, x4, x5, x6, x7, x8, x9, x10, x11, x12, x13) (xf_refusalOf (x0, x1, x2, x3, x4, x5, x6, x7, x8, x9, x10, x11, x12, x13) p1 p2) p1 p2 (xf_replyTo (x0, x1, x2, x3, x4, x5, x6, x7, x8, x9, x10, x11, x12, x13) (xf_refusalOf (x0, x1, x2, x3, x4, x5, x6, x7, x8, x9, x10, x11, x12, x13) p1 p2) p1 p3)))) H := hP
    have hD : va_D A (xw ad cd (x0, x1, x2, x3, x4, x5, x6, x7, x8, x9, x10, x11, x12, (xf_logBehind (x0, x1, x2, x3, x4, x5, x6, x7, x8, x9, x10, x11, x12, x13) (xf_refusalOf (x0, x1, x2, x3, x4, x5, x6, x7, x8, x9, x10, x11, x12, x13) p1 p2) p1 p2 (xf_replyTo (x0, x1, x2, x3, x4, x5, x6, x7, x8, x9, x10, x11, x12, x13) (xf_refusalOf (x0, x1, x2, x3, x4, x5, x6, x7, x8, x9, x10, x11, x12, x13) p1 p2) p1 p3)))) := hD
    refine lv_aload_n hx hb dX0_call_45 rfl (lv_at hl 2 rfl) ?_
    refine lv_lload hx hb dX0_call_46 (lv_at hl 1 rfl) ?_
    refine lv_iload_n hx hb dX0_call_48 rfl (lv_at hl 3 rfl) ?_
    refine lv_iload_n hx hb dX0_call_49 rfl (lv_at hl 4 rfl) ?_
    have hFc := va_free (wc := xw ad cd (x0, x1, x2, x3, x4, x5, x6, x7, x8, x9, x10, x11, x12, (xf_logBehind (x0, x1, x2, x3, x4, x5, x6, x7, x8, x9, x10, x11, x12, x13) (xf_refusalOf (x0, x1, x2, x3, x4, x5, x6, x7, x8, x9, x10, x11, x12, x13) p1 p2) p1 p2 (xf_replyTo (x0, x1, x2, x3, x4, x5, x6, x7, x8, x9, x10, x11, x12, x13) (xf_refusalOf (x0, x1, x2, x3, x4, x5, x6, x7, x8, x9, x10, x11, x12, x13) p1 p2) p1 p3)))) hD hS hA [0, 1, 2, 3, 4, 5] rfl
    refine va_callv (va_runV (As := [.long (xf_refusalOf (x0, x1, x2, x3, x4, x5, x6, x7, x8, x9, x10, x11, x12, x13) p1 p2), .int p1, .int p2]) (rest := []) ⟨hx, hb, hml, hown, hts⟩ (xk_settle l D ad cd (x0, x1, x2, x3, x4, x5, x6, x7, x8, x9, x10, x11, x12, (xf_logBehind (x0, x1, x2, x3, x4, x5, x6, x7, x8, x9, x10, x11, x12, x13) (xf_refusalOf (x0, x1, x2, x3, x4, x5, x6, x7, x8, x9, x10, x11, x12, x13) p1 p2) p1 p2 (xf_replyTo (x0, x1, x2, x3, x4, x5, x6, x7, x8, x9, x10, x11, x12, x13) (xf_refusalOf (x0, x1, x2, x3, x4, x5, x6, x7, x8, x9, x10, x11, x12, x13) p1 p2) p1 p3))) H.size (xf_refusalOf (x0, x1, x2, x3, x4, x5, x6, x7, x8, x9, x10, x11, x12, x13) p1 p2) p1 p2 (xro_in _ _ _)) (cwV 3 hts gX0_call_X0_settle rfl rfl rfl (by decide +kernel) ⟨Nat.le_of_ble_eq_true rfl, Nat.le_of_ble_eq_true rfl⟩) ⟨fun a U g mk q => ⟨q.1, q.2.1, q.2.2.1, va_K.moved (u := U) (U := U.calling g mk a) (Vm.Alike.refl U.vm) q.2.2.2.1, q.2.2.2.2⟩, va_recv hK hP (ci := 0) (q0 := 0) rfl rfl, fun U hU hW => ⟨rfl, by rw [hU], by rw [hU]; exact hP, va_K.moved hW.alike hK, hD.weaken (fun _ _ _ _ => trivial)⟩⟩ rfl rfl hl.1 rfl (lv_room (Nat.le_of_ble_eq_true rfl)) dX0_call_50 ⟨Nat.zero_le _, Nat.zero_le _⟩) hS (fun q _ h => hFc q h) hFc (fun u_50 t H1 locs ht hvm hw hB hz1 hk1 hS => ?_)
    obtain ⟨hP1, hK1, hD1⟩ := hB
    rw [ht] at hP1
    obtain ⟨hP, hD⟩ := va_join (wr := []) (w1 := xw ad cd u_50) hP hD [0, 1, 2, 3, 4, 5] [] rfl rfl (by decide) (by decide) hk1 hFc hP1 hD1
    generalize H1 = H at hP hS ⊢
    have hu_50 : u_50 = (xf_settle (x0, x1, x2, x3, x4, x5, x6, x7, x8, x9, x10, x11, x12, (xf_logBehind (x0, x1, x2, x3, x4, x5, x6, x7, x8, x9, x10, x11, x12, x13) (xf_refusalOf (x0, x1, x2, x3, x4, x5, x6, x7, x8, x9, x10, x11, x12, x13) p1 p2) p1 p2 (xf_replyTo (x0, x1, x2, x3, x4, x5, x6, x7, x8, x9, x10, x11, x12, x13) (xf_refusalOf (x0, x1, x2, x3, x4, x5, x6, x7, x8, x9, x10, x11, x12, x13) p1 p2) p1 p3))) (xf_refusalOf (x0, x1, x2, x3, x4, x5, x6, x7, x8, x9, x10, x11, x12, x13) p1 p2) p1 p2) := hw
    subst hu_50
    have hP : va_P D vwCl (xw ad cd (xf_settle (x0, x1, x2, x3, x4, x5, x6, x7, x8, x9, x10, x11, x12, (xf_logBehind (x0, x1, x2, x3, x4, x5, x6, x7, x8, x9, x10, x11, x12, x13) (xf_refusalOf (x0, x1, x2, x3, x4, x5, x6, x7, x8, x9, x10, x11, x12, x13) p1 p2) p1 p2 (xf_replyTo (x0, x1, x2, x3, x4, x5, x6, x7, x8, x9, x10, x11, x12, x13) (xf_refusalOf (x0, x1, x2, x3, x4, x5, x6, x7, x8, x9, x10, x11, x12, x13) p1 p2) p1 p3))) (xf_refusalOf (x0, x1, x2, x3, x4, x5, x6, x7, x8, x9, x10, x11, x12, x13) p1 p2) p1 p2)) H := hP
    have hD : va_D A (xw ad cd (xf_settle (x0, x1, x2, x3, x4, x5, x6, x7, x8, x9, x10, x11, x12, (xf_logBehind (x0, x1, x2, x3, x4, x5, x6, x7, x8, x9, x10, x11, x12, x13) (xf_refusalOf (x0, x1, x2, x3, x4, x5, x6, x7, x8, x9, x10, x11, x12, x13) p1 p2) p1 p2 (xf_replyTo (x0, x1, x2, x3, x4, x5, x6, x7, x8, x9, x10, x11, x12, x13) (xf_refusalOf (x0, x1, x2, x3, x4, x5, x6, x7, x8, x9, x10, x11, x12, x13) p1 p2) p1 p3))) (xf_refusalOf (x0, x1, x2, x3, x4, x5, x6, x7, x8, x9, x10, x11, x12, x13) p1 p2) p1 p2)) := hD
    refine lv_lload hx hb dX0_call_53 (lv_at hl 0 rfl) ?_
    exact W.lret (v := (xf_replyTo (x0, x1, x2, x3, x4, x5, x6, x7, x8, x9, x10, x11, x12, x13) (xf_refusalOf (x0, x1, x2, x3, x4, x5, x6, x7, x8, x9, x10, x11, x12, x13) p1 p2) p1 p3)) hx hb hr (fun t ht hW => ⟨⟨(xf_replyTo (x0, x1, x2, x3, x4, x5, x6, x7, x8, x9, x10, x11, x12, x13) (xf_refusalOf (x0, x1, x2, x3, x4, x5, x6, x7, x8, x9, x10, x11, x12, x13) p1 p2) p1 p3), (xf_settle (x0, x1, x2, x3, x4, x5, x6, x7, x8, x9, x10, x11, x12, (xf_logBehind (x0, x1, x2, x3, x4, x5, x6, x7, x8, x9, x10, x11, x12, x13) (xf_refusalOf (x0, x1, x2, x3, x4, x5, x6, x7, x8, x9, x10, x11, x12, x13) p1 p2) p1 p2 (xf_replyTo (x0, x1, x2, x3, x4, x5, x6, x7, x8, x9, x10, x11, x12, x13) (xf_refusalOf (x0, x1, x2, x3, x4, x5, x6, x7, x8, x9, x10, x11, x12, x13) p1 p2) p1 p3))) (xf_refusalOf (x0, x1, x2, x3, x4, x5, x6, x7, x8, x9, x10, x11, x12, x13) p1 p2) p1 p2), rfl, (by simp only [xf_call, if_neg c_14]), by rw [ht]; exact hP, va_K.moved hW.alike hK, hD⟩, hS.F ht⟩) hS.2.2 dX0_call_55
  · refine lv_ldc2 (v := (-9000000000000000012)) hx hb hown (hts (.constantLong RX0 71 (-9000000000000000012)) (by decide +kernel)) dX0_call_17 ?_
    exact W.lret (v := (-9000000000000000012)) hx hb hr (fun t ht hW => ⟨⟨(-9000000000000000012), (x0, x1, x2, x3, x4, x5, x6, x7, x8, x9, x10, x11, x12, x13), rfl, (by simp only [xf_call, if_pos c_14]), by rw [ht]; exact hP, va_K.moved hW.alike hK, hD⟩, hS.F ht⟩) hS.2.2 dX0_call_20
end
section
def x_new : XS := ((fun _ => 0), (fun _ => 0), (fun _ => 0), (fun _ => 0), (fun _ => 0), 0, 0, 0, 0, 0, 0, 0, 0, 7)
set_option maxHeartbeats 4000000 in
set_option maxRecDepth 100000 in
theorem xk_init (l : Launch) (D : va_G) (h0 sz : Nat) : Met l yX0_init wsX0_init ({ frames := 1, cells := 5, slots := 1060, locals := 12 }) (va_Pc [.ref h0] (fun U => U.heap.size = sz ∧ va_P D vwCl [(h0, .inr (0, [.null, .null, .null, .null, .null, .int 0, .long 0, .long 0, .long 0, .long 0, .int 0, .int 0, .int 0, .long 0]))] U.heap ∧ va_K D vwCl [] U ∧ va_D (fun _ => True) [(h0, .inr (0, [.null, .null, .null, .null, .null, .int 0, .long 0, .long 0, .long 0, .long 0, .int 0, .int 0, .int 0, .long 0]))])) (va_Qv (fun u : XS => u = x_new) (fun u t => ∃ (ad : Nat → Nat) (cd : Nat → ClassId), ad 0 = h0 ∧ xat D ad cd (va_A [(h0, .inr (0, [.null, .null, .null, .null, .null, .int 0, .long 0, .long 0, .long 0, .long 0, .int 0, .int 0, .int 0, .long 0]))] sz) u t) (va_A [(h0, .inr (0, [.null, .null, .null, .null, .null, .int 0, .long 0, .long 0, .long 0, .long 0, .int 0, .int 0, .int 0, .long 0]))] sz)) 5 1060 (va_A [(h0, .inr (0, [.null, .null, .null, .null, .null, .int 0, .long 0, .long 0, .long 0, .long 0, .int 0, .int 0, .int 0, .long 0]))] sz) := by
  refine Met.ofW (cc := cX0_init) (maxL := 1) (ret := none) (by decide) rfl ?_
  intro p e s m args below meth c s₁ B hml hv
  obtain ⟨rfl, hsz, hP, hK, hD0⟩ := hv
  have hx := B.exec
  have hb := B.bytes
  have hr := B.returns
  have hts := atoms_spec (ws := wsX0_init) B.pre
  have hown : s.vm.findClass RX0 = some m.cls := findClass_of_methodNamed B.named
  have hlocks := B.notSynchronized
  have hin : meth.name = "<init>" := (name_of_methodNamed B.named B.method).1
  subst hsz
  have hD := hD0.self (sz := s.heap.size)
  generalize hAe : va_A [(h0, .inr (0, [.null, .null, .null, .null, .null, .int 0, .long 0, .long 0, .long 0, .long 0, .int 0, .int 0, .int 0, .long 0]))] s.heap.size = A at hD ⊢
  have hA : ∀ q : Nat, s.heap.size ≤ q → A q := fun q h => by rw [← hAe]; exact Or.inr h
  have hS : va_S A s.heap s.heap [] := va_S.rf
  have hP : va_P D vwCl [(h0, .inr (0, [.null, .null, .null, .null, .null, .int 0, .long 0, .long 0, .long 0, .long 0, .int 0, .int 0, .int 0, .long 0]))] s.heap := hP
  have hl := lv_entry ([.ref h0]) (n := 1) (Nat.le_of_ble_eq_true rfl)
  rw [lg_entry_eq]
  generalize (lg_sl ([.ref h0]) ++ List.replicate (1 - (lg_sl ([.ref h0])).length) Slot.unset).toArray = ls at hl ⊢
  have hl : lv_has ls 1 [(0, .ref h0)] := hl
  refine lv_aload_n hx hb dX0_init_0 rfl (lv_at hl 0 rfl) ?_
  refine W.objInit hx hb hown (hts (.methodLink RX0 3 objectInit) (by decide +kernel)) (hts (.instanceMethod objectInit) (by decide +kernel)) (hts _ (List.mem_of_getElem? (i := 3) rfl)) rfl (by rw [hml]; exact hl.1) rfl dX0_init_1 (Nat.le_of_ble_eq_true rfl) (Nat.le_of_ble_eq_true rfl) ?_
  refine W.eq (g2 := F0 m 4 ls []) rfl ?_
  refine lv_aload_n hx hb dX0_init_4 rfl (lv_at hl 0 rfl) ?_
  refine lv_bipush (v := 10) hx hb dX0_init_5 (by decide) ?_
  have hby : 10 * componentBytes .int ≤ 536870912 := by decide +kernel
  have hce : 0 + 1 ≤ 5 := by decide
  have hsl : 0 + 10 ≤ 1060 := by decide
  have hNN : (10 : Int32).toNatClampNeg = 10 := by decide
  refine va_newa (atype := .int) (D := D) (cl := vwCl) (ty := .int) (N' := 10) (a0 := (10, .inl (fun _ => 0))) hx hb (hts (.arrayClass .int) (by decide +kernel)) rfl hK hP hD hS hA (fun cA => vp_cell_i cA 10 (fun _ => 0)) (by decide) hNN hby hce hsl dX0_init_7 (fun q7 k7 H hK hP hD hS => ?_)
  have hK : va_K D vwCl [(k7, .int)] s := hK
  have hP : va_P D vwCl [(h0, .inr (0, [.null, .null, .null, .null, .null, .int 0, .long 0, .long 0, .long 0, .long 0, .int 0, .int 0, .int 0, .long 0])), (q7, .inl (k7, 10, .inl (fun _ => 0)))] H := hP
  have hD : va_D A [(h0, .inr (0, [.null, .null, .null, .null, .null, .int 0, .long 0, .long 0, .long 0, .long 0, .int 0, .int 0, .int 0, .long 0])), (q7, .inl (k7, 10, .inl (fun _ => 0)))] := hD
  refine W.widen (k := 1) (n := 10) (by decide) (by decide) ?_
  refine va_putF (D := D) (ci := 0) (v := .ref q7) (ty := .array .int) (C := RX0) (T := TX0) (N := 14) hx hb hts (fun _ h => List.mem_cons_of_mem _ (List.mem_append_right _ h)) tyX0 tyX0_ok nmX0 hown hK hP hD hS 0 rfl rfl 0 (by decide) (hts (.fieldLink RX0 9 "PostDesk2" "made" "[I") (by decide +kernel)) (fun _ h9 => h9) rfl hin rfl (by decide +kernel) rfl rfl (Nat.le_of_ble_eq_true rfl) dX0_init_9 (fun H locs hP hD hS => ?_)
  have hP : va_P D vwCl [(h0, .inr (0, [.ref q7, .null, .null, .null, .null, .int 0, .long 0, .long 0, .long 0, .long 0, .int 0, .int 0, .int 0, .long 0])), (q7, .inl (k7, 10, .inl (fun _ => 0)))] H := hP
  have hD : va_D A [(h0, .inr (0, [.ref q7, .null, .null, .null, .null, .int 0, .long 0, .long 0, .long 0, .long 0, .int 0, .int 0, .int 0, .long 0])), (q7, .inl (k7, 10, .inl (fun _ => 0)))] := hD
  refine lv_aload_n hx hb dX0_init_12 rfl (lv_at hl 0 rfl) ?_
  refine lv_bipush (v := 10) hx hb dX0_init_13 (by decide) ?_
  have hby : 10 * componentBytes .int ≤ 536870912 := by decide +kernel
  have hce : 1 + 1 ≤ 5 := by decide
  have hsl : 10 + 10 ≤ 1060 := by decide
  have hNN : (10 : Int32).toNatClampNeg = 10 := by decide
  refine va_newa (atype := .int) (D := D) (cl := vwCl) (ty := .int) (N' := 10) (a0 := (10, .inl (fun _ => 0))) hx hb (hts (.arrayClass .int) (by decide +kernel)) rfl hK hP hD hS hA (fun cA => vp_cell_i cA 10 (fun _ => 0)) (by decide) hNN hby hce hsl dX0_init_15 (fun q15 k15 H hK hP hD hS => ?_)
  have hK : va_K D vwCl [(k7, .int), (k15, .int)] s := hK
  have hP : va_P D vwCl [(h0, .inr (0, [.ref q7, .null, .null, .null, .null, .int 0, .long 0, .long 0, .long 0, .long 0, .int 0, .int 0, .int 0, .long 0])), (q7, .inl (k7, 10, .inl (fun _ => 0))), (q15, .inl (k15, 10, .inl (fun _ => 0)))] H := hP
  have hD : va_D A [(h0, .inr (0, [.ref q7, .null, .null, .null, .null, .int 0, .long 0, .long 0, .long 0, .long 0, .int 0, .int 0, .int 0, .long 0])), (q7, .inl (k7, 10, .inl (fun _ => 0))), (q15, .inl (k15, 10, .inl (fun _ => 0)))] := hD
  refine W.widen (k := 2) (n := 20) (by decide) (by decide) ?_
  refine va_putF (D := D) (ci := 0) (v := .ref q15) (ty := .array .int) (C := RX0) (T := TX0) (N := 14) hx hb hts (fun _ h => List.mem_cons_of_mem _ (List.mem_append_right _ h)) tyX0 tyX0_ok nmX0 hown hK hP hD hS 0 rfl rfl 1 (by decide) (hts (.fieldLink RX0 13 "PostDesk2" "presentOfKind" "[I") (by decide +kernel)) (fun _ h9 => h9) rfl hin rfl (by decide +kernel) rfl rfl (Nat.le_of_ble_eq_true rfl) dX0_init_17 (fun H locs hP hD hS => ?_)
  have hP : va_P D vwCl [(h0, .inr (0, [.ref q7, .ref q15, .null, .null, .null, .int 0, .long 0, .long 0, .long 0, .long 0, .int 0, .int 0, .int 0, .long 0])), (q7, .inl (k7, 10, .inl (fun _ => 0))), (q15, .inl (k15, 10, .inl (fun _ => 0)))] H := hP
  have hD : va_D A [(h0, .inr (0, [.ref q7, .ref q15, .null, .null, .null, .int 0, .long 0, .long 0, .long 0, .long 0, .int 0, .int 0, .int 0, .long 0])), (q7, .inl (k7, 10, .inl (fun _ => 0))), (q15, .inl (k15, 10, .inl (fun _ => 0)))] := hD
  refine lv_aload_n hx hb dX0_init_20 rfl (lv_at hl 0 rfl) ?_
  refine lv_sipush (v := 1000) hx hb dX0_init_21 (by decide) ?_
  have hby : 1000 * componentBytes .boolean ≤ 536870912 := by decide +kernel
  have hce : 2 + 1 ≤ 5 := by decide
  have hsl : 20 + 1000 ≤ 1060 := by decide
  have hNN : (1000 : Int32).toNatClampNeg = 1000 := by decide
  refine va_newa (atype := .boolean) (D := D) (cl := vwCl) (ty := .boolean) (N' := 1000) (a0 := (1000, .inl (fun _ => 0))) hx hb (hts (.arrayClass .boolean) (by decide +kernel)) rfl hK hP hD hS hA (fun cA => vp_cell_i cA 1000 (fun _ => 0)) (by decide) hNN hby hce hsl dX0_init_24 (fun q24 k24 H hK hP hD hS => ?_)
  have hK : va_K D vwCl [(k7, .int), (k15, .int), (k24, .boolean)] s := hK
  have hP : va_P D vwCl [(h0, .inr (0, [.ref q7, .ref q15, .null, .null, .null, .int 0, .long 0, .long 0, .long 0, .long 0, .int 0, .int 0, .int 0, .long 0])), (q7, .inl (k7, 10, .inl (fun _ => 0))), (q15, .inl (k15, 10, .inl (fun _ => 0))), (q24, .inl (k24, 1000, .inl (fun _ => 0)))] H := hP
  have hD : va_D A [(h0, .inr (0, [.ref q7, .ref q15, .null, .null, .null, .int 0, .long 0, .long 0, .long 0, .long 0, .int 0, .int 0, .int 0, .long 0])), (q7, .inl (k7, 10, .inl (fun _ => 0))), (q15, .inl (k15, 10, .inl (fun _ => 0))), (q24, .inl (k24, 1000, .inl (fun _ => 0)))] := hD
  refine W.widen (k := 3) (n := 1020) (by decide) (by decide) ?_
  refine va_putF (D := D) (ci := 0) (v := .ref q24) (ty := .array .boolean) (C := RX0) (T := TX0) (N := 14) hx hb hts (fun _ h => List.mem_cons_of_mem _ (List.mem_append_right _ h)) tyX0 tyX0_ok nmX0 hown hK hP hD hS 0 rfl rfl 2 (by decide) (hts (.fieldLink RX0 16 "PostDesk2" "present" "[Z") (by decide +kernel)) (fun _ h9 => h9) rfl hin rfl (by decide +kernel) rfl rfl (Nat.le_of_ble_eq_true rfl) dX0_init_26 (fun H locs hP hD hS => ?_)
  have hP : va_P D vwCl [(h0, .inr (0, [.ref q7, .ref q15, .ref q24, .null, .null, .int 0, .long 0, .long 0, .long 0, .long 0, .int 0, .int 0, .int 0, .long 0])), (q7, .inl (k7, 10, .inl (fun _ => 0))), (q15, .inl (k15, 10, .inl (fun _ => 0))), (q24, .inl (k24, 1000, .inl (fun _ => 0)))] H := hP
  have hD : va_D A [(h0, .inr (0, [.ref q7, .ref q15, .ref q24, .null, .null, .int 0, .long 0, .long 0, .long 0, .long 0, .int 0, .int 0, .int 0, .long 0])), (q7, .inl (k7, 10, .inl (fun _ => 0))), (q15, .inl (k15, 10, .inl (fun _ => 0))), (q24, .inl (k24, 1000, .inl (fun _ => 0)))] := hD
  refine lv_aload_n hx hb dX0_init_29 rfl (lv_at hl 0 rfl) ?_
  refine lv_bipush (v := 20) hx hb dX0_init_30 (by decide) ?_
  have hby : 20 * componentBytes .long ≤ 536870912 := by decide +kernel
  have hce : 3 + 1 ≤ 5 := by decide
  have hsl : 1020 + 20 ≤ 1060 := by decide
  have hNN : (20 : Int32).toNatClampNeg = 20 := by decide
  refine va_newa (atype := .long) (D := D) (cl := vwCl) (ty := .long) (N' := 20) (a0 := (20, .inr (.inl (fun _ => 0)))) hx hb (hts (.arrayClass .long) (by decide +kernel)) rfl hK hP hD hS hA (fun cA => vp_cell_l cA 20 (fun _ => 0)) (by decide) hNN hby hce hsl dX0_init_32 (fun q32 k32 H hK hP hD hS => ?_)
  have hK : va_K D vwCl [(k7, .int), (k15, .int), (k24, .boolean), (k32, .long)] s := hK
  have hP : va_P D vwCl [(h0, .inr (0, [.ref q7, .ref q15, .ref q24, .null, .null, .int 0, .long 0, .long 0, .long 0, .long 0, .int 0, .int 0, .int 0, .long 0])), (q7, .inl (k7, 10, .inl (fun _ => 0))), (q15, .inl (k15, 10, .inl (fun _ => 0))), (q24, .inl (k24, 1000, .inl (fun _ => 0))), (q32, .inl (k32, 20, .inr (.inl (fun _ => 0))))] H := hP
  have hD : va_D A [(h0, .inr (0, [.ref q7, .ref q15, .ref q24, .null, .null, .int 0, .long 0, .long 0, .long 0, .long 0, .int 0, .int 0, .int 0, .long 0])), (q7, .inl (k7, 10, .inl (fun _ => 0))), (q15, .inl (k15, 10, .inl (fun _ => 0))), (q24, .inl (k24, 1000, .inl (fun _ => 0))), (q32, .inl (k32, 20, .inr (.inl (fun _ => 0))))] := hD
  refine W.widen (k := 4) (n := 1040) (by decide) (by decide) ?_
  refine va_putF (D := D) (ci := 0) (v := .ref q32) (ty := .array .long) (C := RX0) (T := TX0) (N := 14) hx hb hts (fun _ h => List.mem_cons_of_mem _ (List.mem_append_right _ h)) tyX0 tyX0_ok nmX0 hown hK hP hD hS 0 rfl rfl 3 (by decide) (hts (.fieldLink RX0 20 "PostDesk2" "values" "[J") (by decide +kernel)) (fun _ h9 => h9) rfl hin rfl (by decide +kernel) rfl rfl (Nat.le_of_ble_eq_true rfl) dX0_init_34 (fun H locs hP hD hS => ?_)
  have hP : va_P D vwCl [(h0, .inr (0, [.ref q7, .ref q15, .ref q24, .ref q32, .null, .int 0, .long 0, .long 0, .long 0, .long 0, .int 0, .int 0, .int 0, .long 0])), (q7, .inl (k7, 10, .inl (fun _ => 0))), (q15, .inl (k15, 10, .inl (fun _ => 0))), (q24, .inl (k24, 1000, .inl (fun _ => 0))), (q32, .inl (k32, 20, .inr (.inl (fun _ => 0))))] H := hP
  have hD : va_D A [(h0, .inr (0, [.ref q7, .ref q15, .ref q24, .ref q32, .null, .int 0, .long 0, .long 0, .long 0, .long 0, .int 0, .int 0, .int 0, .long 0])), (q7, .inl (k7, 10, .inl (fun _ => 0))), (q15, .inl (k15, 10, .inl (fun _ => 0))), (q24, .inl (k24, 1000, .inl (fun _ => 0))), (q32, .inl (k32, 20, .inr (.inl (fun _ => 0))))] := hD
  refine lv_aload_n hx hb dX0_init_37 rfl (lv_at hl 0 rfl) ?_
  refine lv_bipush (v := 20) hx hb dX0_init_38 (by decide) ?_
  have hby : 20 * componentBytes .int ≤ 536870912 := by decide +kernel
  have hce : 4 + 1 ≤ 5 := by decide
  have hsl : 1040 + 20 ≤ 1060 := by decide
  have hNN : (20 : Int32).toNatClampNeg = 20 := by decide
  refine va_newa (atype := .int) (D := D) (cl := vwCl) (ty := .int) (N' := 20) (a0 := (20, .inl (fun _ => 0))) hx hb (hts (.arrayClass .int) (by decide +kernel)) rfl hK hP hD hS hA (fun cA => vp_cell_i cA 20 (fun _ => 0)) (by decide) hNN hby hce hsl dX0_init_40 (fun q40 k40 H hK hP hD hS => ?_)
  have hK : va_K D vwCl [(k7, .int), (k15, .int), (k24, .boolean), (k32, .long), (k40, .int)] s := hK
  have hP : va_P D vwCl [(h0, .inr (0, [.ref q7, .ref q15, .ref q24, .ref q32, .null, .int 0, .long 0, .long 0, .long 0, .long 0, .int 0, .int 0, .int 0, .long 0])), (q7, .inl (k7, 10, .inl (fun _ => 0))), (q15, .inl (k15, 10, .inl (fun _ => 0))), (q24, .inl (k24, 1000, .inl (fun _ => 0))), (q32, .inl (k32, 20, .inr (.inl (fun _ => 0)))), (q40, .inl (k40, 20, .inl (fun _ => 0)))] H := hP
  have hD : va_D A [(h0, .inr (0, [.ref q7, .ref q15, .ref q24, .ref q32, .null, .int 0, .long 0, .long 0, .long 0, .long 0, .int 0, .int 0, .int 0, .long 0])), (q7, .inl (k7, 10, .inl (fun _ => 0))), (q15, .inl (k15, 10, .inl (fun _ => 0))), (q24, .inl (k24, 1000, .inl (fun _ => 0))), (q32, .inl (k32, 20, .inr (.inl (fun _ => 0)))), (q40, .inl (k40, 20, .inl (fun _ => 0)))] := hD
  refine W.widen (k := 5) (n := 1060) (by decide) (by decide) ?_
  refine va_putF (D := D) (ci := 0) (v := .ref q40) (ty := .array .int) (C := RX0) (T := TX0) (N := 14) hx hb hts (fun _ h => List.mem_cons_of_mem _ (List.mem_append_right _ h)) tyX0 tyX0_ok nmX0 hown hK hP hD hS 0 rfl rfl 4 (by decide) (hts (.fieldLink RX0 24 "PostDesk2" "failures" "[I") (by decide +kernel)) (fun _ h9 => h9) rfl hin rfl (by decide +kernel) rfl rfl (Nat.le_of_ble_eq_true rfl) dX0_init_42 (fun H locs hP hD hS => ?_)
  have hP : va_P D vwCl [(h0, .inr (0, [.ref q7, .ref q15, .ref q24, .ref q32, .ref q40, .int 0, .long 0, .long 0, .long 0, .long 0, .int 0, .int 0, .int 0, .long 0])), (q7, .inl (k7, 10, .inl (fun _ => 0))), (q15, .inl (k15, 10, .inl (fun _ => 0))), (q24, .inl (k24, 1000, .inl (fun _ => 0))), (q32, .inl (k32, 20, .inr (.inl (fun _ => 0)))), (q40, .inl (k40, 20, .inl (fun _ => 0)))] H := hP
  have hD : va_D A [(h0, .inr (0, [.ref q7, .ref q15, .ref q24, .ref q32, .ref q40, .int 0, .long 0, .long 0, .long 0, .long 0, .int 0, .int 0, .int 0, .long 0])), (q7, .inl (k7, 10, .inl (fun _ => 0))), (q15, .inl (k15, 10, .inl (fun _ => 0))), (q24, .inl (k24, 1000, .inl (fun _ => 0))), (q32, .inl (k32, 20, .inr (.inl (fun _ => 0)))), (q40, .inl (k40, 20, .inl (fun _ => 0)))] := hD
  refine lv_aload_n hx hb dX0_init_45 rfl (lv_at hl 0 rfl) ?_
  refine lv_iconst (v := 0) hx hb dX0_init_46 (by decide) ?_
  refine va_put (D := D) (ci := 0) (v := .int 0) (ty := .int) (C := RX0) (T := TX0) (N := 14) hx hb hts (fun _ h => List.mem_cons_of_mem _ (List.mem_append_right _ h)) tyX0 tyX0_ok nmX0 hown hK hP hD hS 0 rfl rfl 5 (by decide) (hts (.fieldLink RX0 27 "PostDesk2" "collected" "I") (by decide +kernel)) (fun _ h9 => h9) rfl (by decide +kernel) rfl rfl (Nat.le_of_ble_eq_true rfl) dX0_init_47 (fun H locs hP hD hS => ?_)
  have hP : va_P D vwCl [(h0, .inr (0, [.ref q7, .ref q15, .ref q24, .ref q32, .ref q40, .int 0, .long 0, .long 0, .long 0, .long 0, .int 0, .int 0, .int 0, .long 0])), (q7, .inl (k7, 10, .inl (fun _ => 0))), (q15, .inl (k15, 10, .inl (fun _ => 0))), (q24, .inl (k24, 1000, .inl (fun _ => 0))), (q32, .inl (k32, 20, .inr (.inl (fun _ => 0)))), (q40, .inl (k40, 20, .inl (fun _ => 0)))] H := hP
  have hD : va_D A [(h0, .inr (0, [.ref q7, .ref q15, .ref q24, .ref q32, .ref q40, .int 0, .long 0, .long 0, .long 0, .long 0, .int 0, .int 0, .int 0, .long 0])), (q7, .inl (k7, 10, .inl (fun _ => 0))), (q15, .inl (k15, 10, .inl (fun _ => 0))), (q24, .inl (k24, 1000, .inl (fun _ => 0))), (q32, .inl (k32, 20, .inr (.inl (fun _ => 0)))), (q40, .inl (k40, 20, .inl (fun _ => 0)))] := hD
  refine lv_aload_n hx hb dX0_init_50 rfl (lv_at hl 0 rfl) ?_
  refine lv_lconst (v := 0) hx hb dX0_init_51 (by decide) ?_
  refine va_put (D := D) (ci := 0) (v := .long 0) (ty := .long) (C := RX0) (T := TX0) (N := 14) hx hb hts (fun _ h => List.mem_cons_of_mem _ (List.mem_append_right _ h)) tyX0 tyX0_ok nmX0 hown hK hP hD hS 0 rfl rfl 6 (by decide) (hts (.fieldLink RX0 31 "PostDesk2" "digest" "J") (by decide +kernel)) (fun _ h9 => h9) rfl (by decide +kernel) rfl rfl (Nat.le_of_ble_eq_true rfl) dX0_init_52 (fun H locs hP hD hS => ?_)
  have hP : va_P D vwCl [(h0, .inr (0, [.ref q7, .ref q15, .ref q24, .ref q32, .ref q40, .int 0, .long 0, .long 0, .long 0, .long 0, .int 0, .int 0, .int 0, .long 0])), (q7, .inl (k7, 10, .inl (fun _ => 0))), (q15, .inl (k15, 10, .inl (fun _ => 0))), (q24, .inl (k24, 1000, .inl (fun _ => 0))), (q32, .inl (k32, 20, .inr (.inl (fun _ => 0)))), (q40, .inl (k40, 20, .inl (fun _ => 0)))] H := hP
  have hD : va_D A [(h0, .inr (0, [.ref q7, .ref q15, .ref q24, .ref q32, .ref q40, .int 0, .long 0, .long 0, .long 0, .long 0, .int 0, .int 0, .int 0, .long 0])), (q7, .inl (k7, 10, .inl (fun _ => 0))), (q15, .inl (k15, 10, .inl (fun _ => 0))), (q24, .inl (k24, 1000, .inl (fun _ => 0))), (q32, .inl (k32, 20, .inr (.inl (fun _ => 0)))), (q40, .inl (k40, 20, .inl (fun _ => 0)))] := hD
  refine lv_aload_n hx hb dX0_init_55 rfl (lv_at hl 0 rfl) ?_
  refine lv_lconst (v := 0) hx hb dX0_init_56 (by decide) ?_
  refine va_put (D := D) (ci := 0) (v := .long 0) (ty := .long) (C := RX0) (T := TX0) (N := 14) hx hb hts (fun _ h => List.mem_cons_of_mem _ (List.mem_append_right _ h)) tyX0 tyX0_ok nmX0 hown hK hP hD hS 0 rfl rfl 7 (by decide) (hts (.fieldLink RX0 35 "PostDesk2" "answeredCalls" "J") (by decide +kernel)) (fun _ h9 => h9) rfl (by decide +kernel) rfl rfl (Nat.le_of_ble_eq_true rfl) dX0_init_57 (fun H locs hP hD hS => ?_)
  have hP : va_P D vwCl [(h0, .inr (0, [.ref q7, .ref q15, .ref q24, .ref q32, .ref q40, .int 0, .long 0, .long 0, .long 0, .long 0, .int 0, .int 0, .int 0, .long 0])), (q7, .inl (k7, 10, .inl (fun _ => 0))), (q15, .inl (k15, 10, .inl (fun _ => 0))), (q24, .inl (k24, 1000, .inl (fun _ => 0))), (q32, .inl (k32, 20, .inr (.inl (fun _ => 0)))), (q40, .inl (k40, 20, .inl (fun _ => 0)))] H := hP
  have hD : va_D A [(h0, .inr (0, [.ref q7, .ref q15, .ref q24, .ref q32, .ref q40, .int 0, .long 0, .long 0, .long 0, .long 0, .int 0, .int 0, .int 0, .long 0])), (q7, .inl (k7, 10, .inl (fun _ => 0))), (q15, .inl (k15, 10, .inl (fun _ => 0))), (q24, .inl (k24, 1000, .inl (fun _ => 0))), (q32, .inl (k32, 20, .inr (.inl (fun _ => 0)))), (q40, .inl (k40, 20, .inl (fun _ => 0)))] := hD
  refine lv_aload_n hx hb dX0_init_60 rfl (lv_at hl 0 rfl) ?_
  refine lv_lconst (v := 0) hx hb dX0_init_61 (by decide) ?_
  refine va_put (D := D) (ci := 0) (v := .long 0) (ty := .long) (C := RX0) (T := TX0) (N := 14) hx hb hts (fun _ h => List.mem_cons_of_mem _ (List.mem_append_right _ h)) tyX0 tyX0_ok nmX0 hown hK hP hD hS 0 rfl rfl 8 (by decide) (hts (.fieldLink RX0 38 "PostDesk2" "refusedCalls" "J") (by decide +kernel)) (fun _ h9 => h9) rfl (by decide +kernel) rfl rfl (Nat.le_of_ble_eq_true rfl) dX0_init_62 (fun H locs hP hD hS => ?_)
  have hP : va_P D vwCl [(h0, .inr (0, [.ref q7, .ref q15, .ref q24, .ref q32, .ref q40, .int 0, .long 0, .long 0, .long 0, .long 0, .int 0, .int 0, .int 0, .long 0])), (q7, .inl (k7, 10, .inl (fun _ => 0))), (q15, .inl (k15, 10, .inl (fun _ => 0))), (q24, .inl (k24, 1000, .inl (fun _ => 0))), (q32, .inl (k32, 20, .inr (.inl (fun _ => 0)))), (q40, .inl (k40, 20, .inl (fun _ => 0)))] H := hP
  have hD : va_D A [(h0, .inr (0, [.ref q7, .ref q15, .ref q24, .ref q32, .ref q40, .int 0, .long 0, .long 0, .long 0, .long 0, .int 0, .int 0, .int 0, .long 0])), (q7, .inl (k7, 10, .inl (fun _ => 0))), (q15, .inl (k15, 10, .inl (fun _ => 0))), (q24, .inl (k24, 1000, .inl (fun _ => 0))), (q32, .inl (k32, 20, .inr (.inl (fun _ => 0)))), (q40, .inl (k40, 20, .inl (fun _ => 0)))] := hD
  refine lv_aload_n hx hb dX0_init_65 rfl (lv_at hl 0 rfl) ?_
  refine lv_lconst (v := 0) hx hb dX0_init_66 (by decide) ?_
  refine va_put (D := D) (ci := 0) (v := .long 0) (ty := .long) (C := RX0) (T := TX0) (N := 14) hx hb hts (fun _ h => List.mem_cons_of_mem _ (List.mem_append_right _ h)) tyX0 tyX0_ok nmX0 hown hK hP hD hS 0 rfl rfl 9 (by decide) (hts (.fieldLink RX0 41 "PostDesk2" "failedCalls" "J") (by decide +kernel)) (fun _ h9 => h9) rfl (by decide +kernel) rfl rfl (Nat.le_of_ble_eq_true rfl) dX0_init_67 (fun H locs hP hD hS => ?_)
  have hP : va_P D vwCl [(h0, .inr (0, [.ref q7, .ref q15, .ref q24, .ref q32, .ref q40, .int 0, .long 0, .long 0, .long 0, .long 0, .int 0, .int 0, .int 0, .long 0])), (q7, .inl (k7, 10, .inl (fun _ => 0))), (q15, .inl (k15, 10, .inl (fun _ => 0))), (q24, .inl (k24, 1000, .inl (fun _ => 0))), (q32, .inl (k32, 20, .inr (.inl (fun _ => 0)))), (q40, .inl (k40, 20, .inl (fun _ => 0)))] H := hP
  have hD : va_D A [(h0, .inr (0, [.ref q7, .ref q15, .ref q24, .ref q32, .ref q40, .int 0, .long 0, .long 0, .long 0, .long 0, .int 0, .int 0, .int 0, .long 0])), (q7, .inl (k7, 10, .inl (fun _ => 0))), (q15, .inl (k15, 10, .inl (fun _ => 0))), (q24, .inl (k24, 1000, .inl (fun _ => 0))), (q32, .inl (k32, 20, .inr (.inl (fun _ => 0)))), (q40, .inl (k40, 20, .inl (fun _ => 0)))] := hD
  refine lv_aload_n hx hb dX0_init_70 rfl (lv_at hl 0 rfl) ?_
  refine lv_iconst (v := 0) hx hb dX0_init_71 (by decide) ?_
  refine va_put (D := D) (ci := 0) (v := .int 0) (ty := .int) (C := RX0) (T := TX0) (N := 14) hx hb hts (fun _ h => List.mem_cons_of_mem _ (List.mem_append_right _ h)) tyX0 tyX0_ok nmX0 hown hK hP hD hS 0 rfl rfl 10 (by decide) (hts (.fieldLink RX0 44 "PostDesk2" "latestFailure" "I") (by decide +kernel)) (fun _ h9 => h9) rfl (by decide +kernel) rfl rfl (Nat.le_of_ble_eq_true rfl) dX0_init_72 (fun H locs hP hD hS => ?_)
  have hP : va_P D vwCl [(h0, .inr (0, [.ref q7, .ref q15, .ref q24, .ref q32, .ref q40, .int 0, .long 0, .long 0, .long 0, .long 0, .int 0, .int 0, .int 0, .long 0])), (q7, .inl (k7, 10, .inl (fun _ => 0))), (q15, .inl (k15, 10, .inl (fun _ => 0))), (q24, .inl (k24, 1000, .inl (fun _ => 0))), (q32, .inl (k32, 20, .inr (.inl (fun _ => 0)))), (q40, .inl (k40, 20, .inl (fun _ => 0)))] H := hP
  have hD : va_D A [(h0, .inr (0, [.ref q7, .ref q15, .ref q24, .ref q32, .ref q40, .int 0, .long 0, .long 0, .long 0, .long 0, .int 0, .int 0, .int 0, .long 0])), (q7, .inl (k7, 10, .inl (fun _ => 0))), (q15, .inl (k15, 10, .inl (fun _ => 0))), (q24, .inl (k24, 1000, .inl (fun _ => 0))), (q32, .inl (k32, 20, .inr (.inl (fun _ => 0)))), (q40, .inl (k40, 20, .inl (fun _ => 0)))] := hD
  refine lv_aload_n hx hb dX0_init_75 rfl (lv_at hl 0 rfl) ?_
  refine lv_iconst (v := 0) hx hb dX0_init_76 (by decide) ?_
  refine va_put (D := D) (ci := 0) (v := .int 0) (ty := .int) (C := RX0) (T := TX0) (N := 14) hx hb hts (fun _ h => List.mem_cons_of_mem _ (List.mem_append_right _ h)) tyX0 tyX0_ok nmX0 hown hK hP hD hS 0 rfl rfl 11 (by decide) (hts (.fieldLink RX0 47 "PostDesk2" "latestNumber" "I") (by decide +kernel)) (fun _ h9 => h9) rfl (by decide +kernel) rfl rfl (Nat.le_of_ble_eq_true rfl) dX0_init_77 (fun H locs hP hD hS => ?_)
  have hP : va_P D vwCl [(h0, .inr (0, [.ref q7, .ref q15, .ref q24, .ref q32, .ref q40, .int 0, .long 0, .long 0, .long 0, .long 0, .int 0, .int 0, .int 0, .long 0])), (q7, .inl (k7, 10, .inl (fun _ => 0))), (q15, .inl (k15, 10, .inl (fun _ => 0))), (q24, .inl (k24, 1000, .inl (fun _ => 0))), (q32, .inl (k32, 20, .inr (.inl (fun _ => 0)))), (q40, .inl (k40, 20, .inl (fun _ => 0)))] H := hP
  have hD : va_D A [(h0, .inr (0, [.ref q7, .ref q15, .ref q24, .ref q32, .ref q40, .int 0, .long 0, .long 0, .long 0, .long 0, .int 0, .int 0, .int 0, .long 0])), (q7, .inl (k7, 10, .inl (fun _ => 0))), (q15, .inl (k15, 10, .inl (fun _ => 0))), (q24, .inl (k24, 1000, .inl (fun _ => 0))), (q32, .inl (k32, 20, .inr (.inl (fun _ => 0)))), (q40, .inl (k40, 20, .inl (fun _ => 0)))] := hD
  refine lv_aload_n hx hb dX0_init_80 rfl (lv_at hl 0 rfl) ?_
  refine lv_iconst (v := 0) hx hb dX0_init_81 (by decide) ?_
  refine va_put (D := D) (ci := 0) (v := .int 0) (ty := .int) (C := RX0) (T := TX0) (N := 14) hx hb hts (fun _ h => List.mem_cons_of_mem _ (List.mem_append_right _ h)) tyX0 tyX0_ok nmX0 hown hK hP hD hS 0 rfl rfl 12 (by decide) (hts (.fieldLink RX0 50 "PostDesk2" "latestCall" "I") (by decide +kernel)) (fun _ h9 => h9) rfl (by decide +kernel) rfl rfl (Nat.le_of_ble_eq_true rfl) dX0_init_82 (fun H locs hP hD hS => ?_)
  have hP : va_P D vwCl [(h0, .inr (0, [.ref q7, .ref q15, .ref q24, .ref q32, .ref q40, .int 0, .long 0, .long 0, .long 0, .long 0, .int 0, .int 0, .int 0, .long 0])), (q7, .inl (k7, 10, .inl (fun _ => 0))), (q15, .inl (k15, 10, .inl (fun _ => 0))), (q24, .inl (k24, 1000, .inl (fun _ => 0))), (q32, .inl (k32, 20, .inr (.inl (fun _ => 0)))), (q40, .inl (k40, 20, .inl (fun _ => 0)))] H := hP
  have hD : va_D A [(h0, .inr (0, [.ref q7, .ref q15, .ref q24, .ref q32, .ref q40, .int 0, .long 0, .long 0, .long 0, .long 0, .int 0, .int 0, .int 0, .long 0])), (q7, .inl (k7, 10, .inl (fun _ => 0))), (q15, .inl (k15, 10, .inl (fun _ => 0))), (q24, .inl (k24, 1000, .inl (fun _ => 0))), (q32, .inl (k32, 20, .inr (.inl (fun _ => 0)))), (q40, .inl (k40, 20, .inl (fun _ => 0)))] := hD
  refine lv_aload_n hx hb dX0_init_85 rfl (lv_at hl 0 rfl) ?_
  refine lv_ldc2 (v := 7) hx hb hown (hts (.constantLong RX0 53 7) (by decide +kernel)) dX0_init_86 ?_
  refine va_put (D := D) (ci := 0) (v := .long 7) (ty := .long) (C := RX0) (T := TX0) (N := 14) hx hb hts (fun _ h => List.mem_cons_of_mem _ (List.mem_append_right _ h)) tyX0 tyX0_ok nmX0 hown hK hP hD hS 0 rfl rfl 13 (by decide) (hts (.fieldLink RX0 55 "PostDesk2" "logged" "J") (by decide +kernel)) (fun _ h9 => h9) rfl (by decide +kernel) rfl rfl (Nat.le_of_ble_eq_true rfl) dX0_init_89 (fun H locs hP hD hS => ?_)
  have hP : va_P D vwCl [(h0, .inr (0, [.ref q7, .ref q15, .ref q24, .ref q32, .ref q40, .int 0, .long 0, .long 0, .long 0, .long 0, .int 0, .int 0, .int 0, .long 7])), (q7, .inl (k7, 10, .inl (fun _ => 0))), (q15, .inl (k15, 10, .inl (fun _ => 0))), (q24, .inl (k24, 1000, .inl (fun _ => 0))), (q32, .inl (k32, 20, .inr (.inl (fun _ => 0)))), (q40, .inl (k40, 20, .inl (fun _ => 0)))] H := hP
  have hD : va_D A [(h0, .inr (0, [.ref q7, .ref q15, .ref q24, .ref q32, .ref q40, .int 0, .long 0, .long 0, .long 0, .long 0, .int 0, .int 0, .int 0, .long 7])), (q7, .inl (k7, 10, .inl (fun _ => 0))), (q15, .inl (k15, 10, .inl (fun _ => 0))), (q24, .inl (k24, 1000, .inl (fun _ => 0))), (q32, .inl (k32, 20, .inr (.inl (fun _ => 0)))), (q40, .inl (k40, 20, .inl (fun _ => 0)))] := hD
  exact W.vret hx hb hr (fun t ht hW => ⟨⟨x_new, rfl, rfl, (fun k => match k with | 0 => h0 | 1 => q7 | 2 => q15 | 3 => q24 | 4 => q32 | 5 => q40 | _ => 0), (fun k => match k with | 1 => k7 | 2 => k15 | 3 => k24 | 4 => k32 | 5 => k40 | _ => k7), rfl, by rw [ht]; exact hP, va_K.moved hW.alike hK, hD⟩, hS.F ht⟩) hS.2.2 dX0_init_92
end
section
theorem yc_in {c : Int32} (h0 : ¬ c < 0) (h1 : c ≤ 19) : vp_in c 20 := by
  rw [vp_in_iff]
  rw [Int32.lt_iff_toInt_lt] at h0
  rw [Int32.le_iff_toInt_le] at h1
  have e0 : (0 : Int32).toInt = 0 := by decide
  have e1 : (19 : Int32).toInt = 19 := by decide
  omega
theorem yc_in' {c : Int32} (h0 : ¬ c < 0) (h1 : ¬ 19 < c) : vp_in c 20 := by
  rw [vp_in_iff]
  rw [Int32.lt_iff_toInt_lt] at h0 h1
  have e0 : (0 : Int32).toInt = 0 := by decide
  have e1 : (19 : Int32).toInt = 19 := by decide
  omega
theorem yk_in {c : Int32} (h0 : ¬ c < 0) (h1 : c ≤ 9) : vp_in c 10 := by
  rw [vp_in_iff]
  rw [Int32.lt_iff_toInt_lt] at h0
  rw [Int32.le_iff_toInt_le] at h1
  have e0 : (0 : Int32).toInt = 0 := by decide
  have e1 : (9 : Int32).toInt = 9 := by decide
  omega
theorem yk_lt {c : Int32} (h0 : ¬ c < 0) (h1 : c ≤ 9) : c.toNatClampNeg < 10 := by
  obtain ⟨j, hj, rfl⟩ := vp_in_of (yk_in h0 h1) (by decide)
  rw [nI_clamp (by omega)]
  exact hj
theorem ymn_in {y : Int32} (h : y = nI y.toNatClampNeg ∧ y.toNatClampNeg ≤ 40) (h2 : ¬ y = 40) : vp_in y 40 := by
  obtain ⟨e, hl⟩ := h
  generalize y.toNatClampNeg = n at e hl
  subst e
  have : n ≠ 40 := fun q => h2 (by rw [q]; rfl)
  exact vp_in_nI (by omega) (by decide)
theorem ymk_in {f : Nat → Int32} {k : Int32} (hk : vp_in k 10) (h0 : 0 ≤ f k.toNatClampNeg ∧ f k.toNatClampNeg ≤ 99) (h9 : ¬ f k.toNatClampNeg = 99) : vp_in (100 * k + upd f k.toNatClampNeg (f k.toNatClampNeg + 1) k.toNatClampNeg) 1000 := by
  rw [pk_us]
  obtain ⟨j, hj, e⟩ := vp_in_of hk (by decide)
  generalize f k.toNatClampNeg = v at h0 h9 ⊢
  subst e
  obtain ⟨i, hi, rfl⟩ := nI_of2 (M := 99) (n := 99) (x := v) (by decide) (by
    have h0 := h0.1
    rw [Int32.lt_iff_toInt_lt]
    rw [Int32.le_iff_toInt_le] at h0
    omega) h0.2
  have : i ≠ 99 := fun q => h9 (by rw [q]; rfl)
  rw [show (100 : Int32) = nI 100 from rfl, pk_mul, nI_1, nI_add]
  exact vp_in_nI (by omega) (by decide)
/-- the reference's place of a number in range -/
theorem yt_of {n : Int32} (h0 : ¬ n ≤ 0) (h1 : ¬ 10000 ≤ n) : ∃ a : Nat, 0 < a ∧ a < 10000 ∧ n = nI a ∧ n - n / 1000 * 1000 = nI (a % 1000) ∧ n / 1000 = nI (a / 1000) := by
  have hn : ¬ n < 0 := by
    rw [Int32.lt_iff_toInt_lt]
    rw [Int32.le_iff_toInt_le] at h0
    omega
  obtain ⟨a, ha, rfl⟩ := nI_of hn
  have ha0 : 0 < a := by
    rcases Nat.eq_zero_or_pos a with q | q
    · subst q
      exact absurd (by decide) h0
    · exact q
  have ha1 : a < 10000 := by
    rw [show (10000 : Int32) = nI 10000 from rfl, nI_leI (by decide) ha] at h1
    omega
  refine ⟨a, ha0, ha1, rfl, ?_, ?_⟩
  · exact pk_rem (d := 1000) ha (by decide) (by decide)
  · exact pk_div (d := 1000) ha (by decide) (by decide)
theorem yt_in {n : Int32} (h0 : ¬ n ≤ 0) (h1 : ¬ 10000 ≤ n) (h2 : ¬ 100 ≤ n - n / 1000 * 1000) : vp_in (100 * (n / 1000) + (n - n / 1000 * 1000)) 1000 := by
  obtain ⟨a, ha0, ha1, -, e1, e2⟩ := yt_of h0 h1
  rw [e1] at h2
  rw [e1, e2, show (100 : Int32) = nI 100 from rfl, pk_mul, nI_add]
  rw [show (100 : Int32) = nI 100 from rfl, nI_leI (by decide) (by omega)] at h2
  exact vp_in_nI (by omega) (by decide)
def yf_isThere (u : YS) (p1 : Int32) : Int32 := match u with
  | (_, _, _, _, _, y5, _, _, _, _, _, _, _) => if p1 ≤ 0 then (0) else (if 10000 ≤ p1 then (0) else (if 100 ≤ (p1 - p1 / 1000 * 1000) then (0) else (if (y5 (((100 * (p1 / 1000)) + (p1 - p1 / 1000 * 1000))).toNatClampNeg) = 0 then (0) else (1))))
set_option maxHeartbeats 4000000 in
set_option maxRecDepth 100000 in
theorem yk_isThere (l : Launch) (D : va_G) (ad : Nat → Nat) (cd : Nat → ClassId) (u : YS) (p1 : Int32)  : Met l yX1_isThere wsX1_isThere ({ frames := 0, cells := 0, slots := 0, locals := 0 }) (yPr D ad cd u [.int p1]) (vp_Si (fun r => r = yf_isThere u p1)) 0 0 (fun _ => False) := by
  obtain ⟨y0, y1, y2, y3, y4, y5, y6, y7, y8, y9, y10, y11, y12⟩ := u
  refine Met.ofW (cc := cX1_isThere) (maxL := 2) (ret := (some .boolean)) (by decide) rfl ?_
  intro p e s m args below meth c s₁ B hml hv
  obtain ⟨rfl, hP, hK⟩ := hv
  have hx := B.exec
  have hb := B.bytes
  have hr := B.returns
  have hts := atoms_spec (ws := wsX1_isThere) B.pre
  have hown : s.vm.findClass RX1 = some m.cls := findClass_of_methodNamed B.named
  have hlocks := B.notSynchronized
  have hP : va_P D vwCl (yw ad cd (y0, y1, y2, y3, y4, y5, y6, y7, y8, y9, y10, y11, y12)) s.heap := hP
  have hl := lv_entry ([.ref (ad 0), .int p1]) (n := 2) (Nat.le_of_ble_eq_true rfl)
  rw [lg_entry_eq]
  generalize (lg_sl ([.ref (ad 0), .int p1]) ++ List.replicate (2 - (lg_sl ([.ref (ad 0), .int p1])).length) Slot.unset).toArray = ls at hl ⊢
  have hl : lv_has ls 2 [(0, .ref (ad 0)), (1, .int p1)] := hl
  refine lv_iload_n hx hb dX1_isThere_0 rfl (lv_at hl 1 rfl) ?_
  refine lv_if_le (tgt := 47) hx hb dX1_isThere_1 (by decide) (fun c_1 => ?_) (fun c_1 => ?_)
  · refine lv_iconst (v := 0) hx hb dX1_isThere_47 (by decide) ?_
    exact W.zret (v := 0) (ty := .boolean) hx hb hr rfl (fun t ht hW => ⟨0, rfl, (by simp only [yf_isThere, if_pos c_1]), ht⟩) (fun _ h => by cases h) dX1_isThere_48
  · refine lv_iload_n hx hb dX1_isThere_4 rfl (lv_at hl 1 rfl) ?_
    refine lv_sipush (v := 10000) hx hb dX1_isThere_5 (by decide) ?_
    refine lv_icmp_ge (tgt := 47) hx hb dX1_isThere_8 (by decide) (fun c_8 => ?_) (fun c_8 => ?_)
    · refine lv_iconst (v := 0) hx hb dX1_isThere_47 (by decide) ?_
      exact W.zret (v := 0) (ty := .boolean) hx hb hr rfl (fun t ht hW => ⟨0, rfl, (by simp only [yf_isThere, if_neg c_1, if_pos c_8]), ht⟩) (fun _ h => by cases h) dX1_isThere_48
    · refine lv_iload_n hx hb dX1_isThere_11 rfl (lv_at hl 1 rfl) ?_
      refine lv_sipush (v := 1000) hx hb dX1_isThere_12 (by decide) ?_
      refine lv_irem hx hb dX1_isThere_15 (by decide) ?_
      refine lv_bipush (v := 100) hx hb dX1_isThere_16 (by decide) ?_
      refine lv_icmp_ge (tgt := 47) hx hb dX1_isThere_18 (by decide) (fun c_18 => ?_) (fun c_18 => ?_)
      · refine lv_iconst (v := 0) hx hb dX1_isThere_47 (by decide) ?_
        exact W.zret (v := 0) (ty := .boolean) hx hb hr rfl (fun t ht hW => ⟨0, rfl, (by simp only [yf_isThere, if_neg c_1, if_neg c_8, if_pos c_18]), ht⟩) (fun _ h => by cases h) dX1_isThere_48
      · refine lv_aload_n hx hb dX1_isThere_21 rfl (lv_at hl 0 rfl) ?_
        refine va_get (D := D) (ci := 1) (v := .ref (ad 5)) (C := RX1) (T := TX1) (N := 13) hx hb hts (fun _ h => List.mem_cons_of_mem _ (List.mem_append_right _ h)) hown hK hP 0 rfl rfl 5 (by decide) (hts (.fieldLink RX1 23 "PostDesk2Model" "there" "[Z") (by decide +kernel)) (fun _ h9 => h9) rfl dX1_isThere_22 ?_
        refine lv_bipush (v := 100) hx hb dX1_isThere_25 (by decide) ?_
        refine lv_iload_n hx hb dX1_isThere_27 rfl (lv_at hl 1 rfl) ?_
        refine lv_sipush (v := 1000) hx hb dX1_isThere_28 (by decide) ?_
        refine lv_idiv hx hb dX1_isThere_31 (by decide) ?_
        refine lv_imul hx hb dX1_isThere_32 ?_
        refine lv_iload_n hx hb dX1_isThere_33 rfl (lv_at hl 1 rfl) ?_
        refine lv_sipush (v := 1000) hx hb dX1_isThere_34 (by decide) ?_
        refine lv_irem hx hb dX1_isThere_37 (by decide) ?_
        refine lv_iadd hx hb dX1_isThere_38 ?_
        refine va_zald hx hb hK hP 5 4 rfl rfl (yt_in c_1 c_8 c_18) dX1_isThere_39 ?_
        refine lv_if_eq (tgt := 47) hx hb dX1_isThere_40 (by decide) (fun c_40 => ?_) (fun c_40 => ?_)
        · refine lv_iconst (v := 0) hx hb dX1_isThere_47 (by decide) ?_
          exact W.zret (v := 0) (ty := .boolean) hx hb hr rfl (fun t ht hW => ⟨0, rfl, (by simp only [yf_isThere, if_neg c_1, if_neg c_8, if_neg c_18, if_pos c_40]), ht⟩) (fun _ h => by cases h) dX1_isThere_48
        · refine lv_iconst (v := 1) hx hb dX1_isThere_43 (by decide) ?_
          refine lv_goto (tgt := 48) hx hb dX1_isThere_44 (by decide) ?_
          exact W.zret (v := 1) (ty := .boolean) hx hb hr rfl (fun t ht hW => ⟨1, rfl, (by simp only [yf_isThere, if_neg c_1, if_neg c_8, if_neg c_18, if_neg c_40]), ht⟩) (fun _ h => by cases h) dX1_isThere_48
theorem yth_01 (u : YS) (n : Int32) : yf_isThere u n = 0 ∨ yf_isThere u n = 1 := by
  obtain ⟨y0, y1, y2, y3, y4, y5, y6, y7, y8, y9, y10, y11, y12⟩ := u
  simp only [yf_isThere]
  split
  · exact Or.inl rfl
  · split
    · exact Or.inl rfl
    · split
      · exact Or.inl rfl
      · split
        · exact Or.inl rfl
        · exact Or.inr rfl
theorem yth_nar (u : YS) (n : Int32) : narrow .boolean (.int (yf_isThere u n)) = .int (yf_isThere u n) := by
  rcases yth_01 u n with h | h <;> rw [h] <;> rfl
theorem yth_in {u : YS} {n : Int32} (h : ¬ yf_isThere u n = 0) : vp_in (100 * (n / 1000) + (n - n / 1000 * 1000)) 1000 := by
  obtain ⟨y0, y1, y2, y3, y4, y5, y6, y7, y8, y9, y10, y11, y12⟩ := u
  simp only [yf_isThere] at h
  split at h
  · exact absurd rfl h
  · rename_i h1
    split at h
    · exact absurd rfl h
    · rename_i h2
      split at h
      · exact absurd rfl h
      · rename_i h3
        exact yt_in h1 h2 h3
def yf_way (u : YS) (p1 : Int32) (p2 : Int32) : Int32 := match u with
  | (y0, y1, y2, y3, y4, y5, y6, y7, y8, y9, y10, y11, y12) => if p1 < 0 then (1) else (if p1 ≤ 19 then (if (yf_isThere (y0, y1, y2, y3, y4, y5, y6, y7, y8, y9, y10, y11, y12) p2) = 0 then (2) else (if (p2 / 1000) = (p1 - p1 / 10 * 10) then (if p1 ≤ 9 then (if (y3 (p1).toNatClampNeg) ≤ 0 then (0) else (4)) else (if y1 = 0 then (3) else (if (y3 (p1).toNatClampNeg) ≤ 0 then (0) else (4)))) else (2))) else (1))
set_option maxHeartbeats 4000000 in
set_option maxRecDepth 100000 in
theorem yk_way (l : Launch) (D : va_G) (ad : Nat → Nat) (cd : Nat → ClassId) (u : YS) (p1 : Int32) (p2 : Int32)  : Met l yX1_way wsX1_way ({ frames := 1, cells := 0, slots := 0, locals := 21 }) (yPr D ad cd u [.int p1, .int p2]) (vp_Si (fun r => r = yf_way u p1 p2)) 0 0 (fun _ => False) := by
  obtain ⟨y0, y1, y2, y3, y4, y5, y6, y7, y8, y9, y10, y11, y12⟩ := u
  refine Met.ofW (cc := cX1_way) (maxL := 3) (ret := (some .int)) (by decide) rfl ?_
  intro p e s m args below meth c s₁ B hml hv
  obtain ⟨rfl, hP, hK⟩ := hv
  have hx := B.exec
  have hb := B.bytes
  have hr := B.returns
  have hts := atoms_spec (ws := wsX1_way) B.pre
  have hown : s.vm.findClass RX1 = some m.cls := findClass_of_methodNamed B.named
  have hlocks := B.notSynchronized
  have hP : va_P D vwCl (yw ad cd (y0, y1, y2, y3, y4, y5, y6, y7, y8, y9, y10, y11, y12)) s.heap := hP
  have hl := lv_entry ([.ref (ad 0), .int p1, .int p2]) (n := 3) (Nat.le_of_ble_eq_true rfl)
  rw [lg_entry_eq]
  generalize (lg_sl ([.ref (ad 0), .int p1, .int p2]) ++ List.replicate (3 - (lg_sl ([.ref (ad 0), .int p1, .int p2])).length) Slot.unset).toArray = ls at hl ⊢
  have hl : lv_has ls 3 [(0, .ref (ad 0)), (1, .int p1), (2, .int p2)] := hl
  refine lv_iload_n hx hb dX1_way_0 rfl (lv_at hl 1 rfl) ?_
  refine lv_if_lt (tgt := 10) hx hb dX1_way_1 (by decide) (fun c_1 => ?_) (fun c_1 => ?_)
  · refine lv_iconst (v := 1) hx hb dX1_way_10 (by decide) ?_
    exact W.iret (v := 1) hx hb hr (fun t ht hW => ⟨1, rfl, (by simp only [yf_way, if_pos c_1]), ht⟩) (fun _ h => by cases h) dX1_way_11
  · refine lv_iload_n hx hb dX1_way_4 rfl (lv_at hl 1 rfl) ?_
    refine lv_bipush (v := 19) hx hb dX1_way_5 (by decide) ?_
    refine lv_icmp_le (tgt := 12) hx hb dX1_way_7 (by decide) (fun c_7 => ?_) (fun c_7 => ?_)
    · refine lv_aload_n hx hb dX1_way_12 rfl (lv_at hl 0 rfl) ?_
      refine lv_iload_n hx hb dX1_way_13 rfl (lv_at hl 2 rfl) ?_
      refine vp_callSi (W.runV (As := [.int p2]) (rest := []) ⟨hx, hb, hml, hown, hts⟩ (yk_isThere l D ad cd (y0, y1, y2, y3, y4, y5, y6, y7, y8, y9, y10, y11, y12) p2) (cwV 1 hts gX1_way_X1_isThere rfl rfl rfl (by decide +kernel) ⟨Nat.le_of_ble_eq_true rfl, Nat.le_of_ble_eq_true rfl⟩) ⟨fun a U g mk q => ⟨q.1, q.2.1, va_K.moved (u := U) (U := U.calling g mk a) (Vm.Alike.refl U.vm) q.2.2⟩, va_recv hK hP (ci := 1) (q0 := 0) rfl rfl, fun U hU hW => ⟨rfl, by rw [hU]; exact hP, va_K.moved hW.alike hK⟩⟩ rfl rfl hl.1 rfl (lv_room (Nat.le_of_ble_eq_true rfl)) dX1_way_14 ⟨Nat.zero_le _, Nat.zero_le _⟩) (fun r_14 hr_14 => ?_)
      subst hr_14
      refine lv_if_eq (tgt := 32) hx hb dX1_way_17 (by decide) (fun c_17 => ?_) (fun c_17 => ?_)
      · refine lv_iconst (v := 2) hx hb dX1_way_32 (by decide) ?_
        exact W.iret (v := 2) hx hb hr (fun t ht hW => ⟨2, rfl, (by simp only [yf_way, if_neg c_1, if_pos c_7, if_pos c_17]), ht⟩) (fun _ h => by cases h) dX1_way_33
      · refine lv_iload_n hx hb dX1_way_20 rfl (lv_at hl 2 rfl) ?_
        refine lv_sipush (v := 1000) hx hb dX1_way_21 (by decide) ?_
        refine lv_idiv hx hb dX1_way_24 (by decide) ?_
        refine lv_iload_n hx hb dX1_way_25 rfl (lv_at hl 1 rfl) ?_
        refine lv_bipush (v := 10) hx hb dX1_way_26 (by decide) ?_
        refine lv_irem hx hb dX1_way_28 (by decide) ?_
        refine lv_icmp_eq (tgt := 34) hx hb dX1_way_29 (by decide) (fun c_29 => ?_) (fun c_29 => ?_)
        · refine lv_iload_n hx hb dX1_way_34 rfl (lv_at hl 1 rfl) ?_
          refine lv_bipush (v := 9) hx hb dX1_way_35 (by decide) ?_
          refine lv_icmp_le (tgt := 51) hx hb dX1_way_37 (by decide) (fun c_37 => ?_) (fun c_37 => ?_)
          · refine lv_aload_n hx hb dX1_way_51 rfl (lv_at hl 0 rfl) ?_
            refine va_get (D := D) (ci := 1) (v := .ref (ad 3)) (C := RX1) (T := TX1) (N := 13) hx hb hts (fun _ h => List.mem_cons_of_mem _ (List.mem_append_right _ h)) hown hK hP 0 rfl rfl 3 (by decide) (hts (.fieldLink RX1 16 "PostDesk2Model" "failure" "[I") (by decide +kernel)) (fun _ h9 => h9) rfl dX1_way_52 ?_
            refine lv_iload_n hx hb dX1_way_55 rfl (lv_at hl 1 rfl) ?_
            refine va_iald hx hb hK hP 3 2 rfl rfl (yc_in c_1 c_7) dX1_way_56 ?_
            refine lv_if_le (tgt := 64) hx hb dX1_way_57 (by decide) (fun c_57 => ?_) (fun c_57 => ?_)
            · refine lv_iconst (v := 0) hx hb dX1_way_64 (by decide) ?_
              exact W.iret (v := 0) hx hb hr (fun t ht hW => ⟨0, rfl, (by simp only [yf_way, if_neg c_1, if_pos c_7, if_neg c_17, if_pos c_29, if_pos c_37, if_pos c_57]), ht⟩) (fun _ h => by cases h) dX1_way_65
            · refine lv_iconst (v := 4) hx hb dX1_way_60 (by decide) ?_
              refine lv_goto (tgt := 65) hx hb dX1_way_61 (by decide) ?_
              exact W.iret (v := 4) hx hb hr (fun t ht hW => ⟨4, rfl, (by simp only [yf_way, if_neg c_1, if_pos c_7, if_neg c_17, if_pos c_29, if_pos c_37, if_neg c_57]), ht⟩) (fun _ h => by cases h) dX1_way_65
          · refine lv_aload_n hx hb dX1_way_40 rfl (lv_at hl 0 rfl) ?_
            refine va_get (D := D) (ci := 1) (v := .int y1) (C := RX1) (T := TX1) (N := 13) hx hb hts (fun _ h => List.mem_cons_of_mem _ (List.mem_append_right _ h)) hown hK hP 0 rfl rfl 1 (by decide) (hts (.fieldLink RX1 33 "PostDesk2Model" "many" "I") (by decide +kernel)) (fun _ h9 => h9) rfl dX1_way_41 ?_
            refine lv_if_ne (tgt := 51) hx hb dX1_way_44 (by decide) (fun c_44 => ?_) (fun c_44 => ?_)
            · refine lv_aload_n hx hb dX1_way_51 rfl (lv_at hl 0 rfl) ?_
              refine va_get (D := D) (ci := 1) (v := .ref (ad 3)) (C := RX1) (T := TX1) (N := 13) hx hb hts (fun _ h => List.mem_cons_of_mem _ (List.mem_append_right _ h)) hown hK hP 0 rfl rfl 3 (by decide) (hts (.fieldLink RX1 16 "PostDesk2Model" "failure" "[I") (by decide +kernel)) (fun _ h9 => h9) rfl dX1_way_52 ?_
              refine lv_iload_n hx hb dX1_way_55 rfl (lv_at hl 1 rfl) ?_
              refine va_iald hx hb hK hP 3 2 rfl rfl (yc_in c_1 c_7) dX1_way_56 ?_
              refine lv_if_le (tgt := 64) hx hb dX1_way_57 (by decide) (fun c_57 => ?_) (fun c_57 => ?_)
              · refine lv_iconst (v := 0) hx hb dX1_way_64 (by decide) ?_
                exact W.iret (v := 0) hx hb hr (fun t ht hW => ⟨0, rfl, (by simp only [yf_way, if_neg c_1, if_pos c_7, if_neg c_17, if_pos c_29, if_neg c_37, if_neg c_44, if_pos c_57]), ht⟩) (fun _ h => by cases h) dX1_way_65
              · refine lv_iconst (v := 4) hx hb dX1_way_60 (by decide) ?_
                refine lv_goto (tgt := 65) hx hb dX1_way_61 (by decide) ?_
                exact W.iret (v := 4) hx hb hr (fun t ht hW => ⟨4, rfl, (by simp only [yf_way, if_neg c_1, if_pos c_7, if_neg c_17, if_pos c_29, if_neg c_37, if_neg c_44, if_neg c_57]), ht⟩) (fun _ h => by cases h) dX1_way_65
            · refine lv_iconst (v := 3) hx hb dX1_way_47 (by decide) ?_
              refine lv_goto (tgt := 65) hx hb dX1_way_48 (by decide) ?_
              exact W.iret (v := 3) hx hb hr (fun t ht hW => ⟨3, rfl, (by simp only [yf_way, if_neg c_1, if_pos c_7, if_neg c_17, if_pos c_29, if_neg c_37, if_pos c_44]), ht⟩) (fun _ h => by cases h) dX1_way_65
        · refine lv_iconst (v := 2) hx hb dX1_way_32 (by decide) ?_
          exact W.iret (v := 2) hx hb hr (fun t ht hW => ⟨2, rfl, (by simp only [yf_way, if_neg c_1, if_pos c_7, if_neg c_17, if_neg c_29]), ht⟩) (fun _ h => by cases h) dX1_way_33
    · refine lv_iconst (v := 1) hx hb dX1_way_10 (by decide) ?_
      exact W.iret (v := 1) hx hb hr (fun t ht hW => ⟨1, rfl, (by simp only [yf_way, if_neg c_1, if_neg c_7]), ht⟩) (fun _ h => by cases h) dX1_way_11
/-- a way that isn't 1: the call is one of the calls -/
theorem ywy_in (u : YS) (c n : Int32) (h : ¬ yf_way u c n = 1) : vp_in c 20 := by
  obtain ⟨y0, y1, y2, y3, y4, y5, y6, y7, y8, y9, y10, y11, y12⟩ := u
  by_cases h0 : c < 0
  · simp only [yf_way, if_pos h0] at h
    exact absurd trivial h
  · by_cases h1 : c ≤ 19
    · exact yc_in h0 h1
    · simp only [yf_way, if_neg h0, if_neg h1] at h
      exact absurd trivial h
theorem ywy_le (u : YS) (c n : Int32) (h : yf_way u c n ≤ 0) : vp_in c 20 := ywy_in u c n (fun q => by rw [q] at h; exact absurd h (by decide))
theorem ywy_4 (u : YS) (c n : Int32) (h : yf_way u c n = 4) : vp_in c 20 := ywy_in u c n (fun q => by rw [q] at h; exact absurd h (by decide))
set_option maxHeartbeats 4000000 in
set_option maxRecDepth 100000 in
/-- the loop of told: behind k rounds the digest of k numbers -/
theorem yl_told {p : Program} {l : Launch} {e : Env} {R : Room} {s : State} {m : MethodId} {args : Array Value} {below : List Frame} {meth : Method} {c : Code} {H : Heap} {locs : List Loc} {cells slots : Nat} {Q : State → Prop} {D : va_G} {ad : Nat → Nat} {cd : Nat → ClassId} {y0 : Nat → Int64} {y1 : Int32} {y2 : Nat → Int64} {y3 y4 y5 : Nat → Int32} {y6 y7 y8 : Int64} {y9 y10 y11 : Int32} {y12 : Int64} {p1 p2 : Int32} {p3 : Int64} (hx : p.tables.exec = Jvm.exec) (hb : c.code = cX1_told) (hts : ∀ w ∈ wsX1_told, w.before args s = true) (hown : s.vm.findClass RX1 = some m.cls) (hK : va_K D vwCl (yt cd) s) (hP : va_P D vwCl (yw ad cd (y0, y1, y2, y3, y4, y5, y6, y7, y8, y9, y10, y11, y12)) H) (h2 : y1 = nI (y1).toNatClampNeg ∧ (y1).toNatClampNeg ≤ 40)
    (kk : ∀ ls : Array Slot, lv_has ls 8 [(7, .int (nI (y1).toNatClampNeg)), (5, .long (dig y0 (y1).toNatClampNeg)), (0, .ref (ad 0)), (1, .int p1), (2, .int p2), (3, .long p3)] → W p l e R s m args below meth c H locs cells slots Q (F0 m 78 ls [])) :
    ∀ (n k : Nat) (ls : Array Slot), k + n = (y1).toNatClampNeg → lv_has ls 8 [(7, .int (nI k)), (5, .long (dig y0 k)), (0, .ref (ad 0)), (1, .int p1), (2, .int p2), (3, .long p3)] → W p l e R s m args below meth c H locs cells slots Q (F0 m 47 ls []) := by
  obtain ⟨e1, hN⟩ := h2
  intro n
  induction n with
  | zero =>
    intro k ls hk hl
    refine lv_iload hx hb dX1_told_47 (lv_at hl 0 rfl) ?_
    refine lv_aload_n hx hb dX1_told_49 rfl (lv_at hl 2 rfl) ?_
    refine va_get (D := D) (ci := 1) (v := .int y1) (C := RX1) (T := TX1) (N := 13) hx hb hts (fun _ h => List.mem_cons_of_mem _ (List.mem_append_right _ h)) hown hK hP 0 rfl rfl 1 (by decide) (hts (.fieldLink RX1 33 "PostDesk2Model" "many" "I") (by decide +kernel)) (fun _ h9 => h9) rfl dX1_told_50 ?_
    refine lv_icmp_ge (tgt := 78) hx hb dX1_told_53 (by decide) (fun c_1 => ?_) (fun c_1 => ?_)
    · rw [Nat.add_zero] at hk
      subst hk
      exact kk ls hl
    · refine absurd ?_ c_1
      rw [Nat.add_zero] at hk
      rw [e1, ← hk]
      exact nI_le (Nat.le_refl _) (by omega)
  | succ n ih =>
    intro k ls hk hl
    refine lv_iload hx hb dX1_told_47 (lv_at hl 0 rfl) ?_
    refine lv_aload_n hx hb dX1_told_49 rfl (lv_at hl 2 rfl) ?_
    refine va_get (D := D) (ci := 1) (v := .int y1) (C := RX1) (T := TX1) (N := 13) hx hb hts (fun _ h => List.mem_cons_of_mem _ (List.mem_append_right _ h)) hown hK hP 0 rfl rfl 1 (by decide) (hts (.fieldLink RX1 33 "PostDesk2Model" "many" "I") (by decide +kernel)) (fun _ h9 => h9) rfl dX1_told_50 ?_
    refine lv_icmp_ge (tgt := 78) hx hb dX1_told_53 (by decide) (fun c_1 => ?_) (fun c_1 => ?_)
    · refine absurd c_1 ?_
      rw [e1]
      exact nI_ge (by omega) (by omega)
    · refine lv_ldc2 (v := 31) hx hb hown (hts (.constantLong RX1 49 31) (by decide +kernel)) dX1_told_56 ?_
      refine lv_lload hx hb dX1_told_59 (lv_at hl 1 rfl) ?_
      refine lv_lmul hx hb dX1_told_61 ?_
      refine lv_aload_n hx hb dX1_told_62 rfl (lv_at hl 2 rfl) ?_
      refine va_get (D := D) (ci := 1) (v := .ref (ad 1)) (C := RX1) (T := TX1) (N := 13) hx hb hts (fun _ h => List.mem_cons_of_mem _ (List.mem_append_right _ h)) hown hK hP 0 rfl rfl 0 (by decide) (hts (.fieldLink RX1 7 "PostDesk2Model" "collected" "[J") (by decide +kernel)) (fun _ h9 => h9) rfl dX1_told_63 ?_
      refine lv_iload hx hb dX1_told_66 (lv_at hl 0 rfl) ?_
      refine va_lald hx hb hK hP 1 0 rfl rfl (vp_in_nI (by omega) (by decide)) dX1_told_68 ?_
      refine lv_ladd hx hb dX1_told_69 ?_
      rw [nI_clamp (by omega)]
      refine lv_lstore (lv' := [(5, .long (dig y0 (k + 1))), (7, .int (nI k)), (0, .ref (ad 0)), (1, .int p1), (2, .int p2), (3, .long p3)]) hx hb dX1_told_70 hl (by decide) rfl (fun ls hl => ?_)
      refine lv_iinc (v := nI (k + 1)) (lv' := [(7, .int (nI (k + 1))), (5, .long (dig y0 (k + 1))), (0, .ref (ad 0)), (1, .int p1), (2, .int p2), (3, .long p3)]) hx hb dX1_told_72 hl (k := 1) rfl (nI_1 k) (by decide) rfl (fun ls hl => ?_)
      refine lv_goto (tgt := 47) hx hb dX1_told_75 (by decide) ?_
      exact ih (k + 1) ls (by omega) hl
def yf_told (u : YS) (p1 : Int32) (p2 : Int32) (p3 : Int64) : Int64 := match u with
  | (y0, y1, y2, _, _, _, _, _, _, _, _, _, _) => if p1 ≤ 0 then ((((y2 (p2).toNatClampNeg) + p3) + (dig y0 (y1).toNatClampNeg))) else (if p1 = 1 then ((-9000000000000000012)) else (if p1 = 2 then ((-9000000000000000011)) else (if p1 = 3 then ((-9000000000000000013)) else ((-9000000000000000020)))))
set_option maxHeartbeats 4000000 in
set_option maxRecDepth 100000 in
theorem yk_told (l : Launch) (D : va_G) (ad : Nat → Nat) (cd : Nat → ClassId) (u : YS) (p1 : Int32) (p2 : Int32) (p3 : Int64) (h1 : p1 ≤ 0 → vp_in p2 20) (h2 : u.2.1 = nI (u.2.1).toNatClampNeg ∧ (u.2.1).toNatClampNeg ≤ 40) : Met l yX1_told wsX1_told ({ frames := 0, cells := 0, slots := 0, locals := 0 }) (yPr D ad cd u [.int p1, .int p2, .long p3]) (vp_Sl (fun r => r = yf_told u p1 p2 p3)) 0 0 (fun _ => False) := by
  obtain ⟨y0, y1, y2, y3, y4, y5, y6, y7, y8, y9, y10, y11, y12⟩ := u
  refine Met.ofW (cc := cX1_told) (maxL := 8) (ret := (some .long)) (by decide) rfl ?_
  intro p e s m args below meth c s₁ B hml hv
  obtain ⟨rfl, hP, hK⟩ := hv
  have hx := B.exec
  have hb := B.bytes
  have hr := B.returns
  have hts := atoms_spec (ws := wsX1_told) B.pre
  have hown : s.vm.findClass RX1 = some m.cls := findClass_of_methodNamed B.named
  have hlocks := B.notSynchronized
  have hP : va_P D vwCl (yw ad cd (y0, y1, y2, y3, y4, y5, y6, y7, y8, y9, y10, y11, y12)) s.heap := hP
  have hl := lv_entry ([.ref (ad 0), .int p1, .int p2, .long p3]) (n := 8) (Nat.le_of_ble_eq_true rfl)
  rw [lg_entry_eq]
  generalize (lg_sl ([.ref (ad 0), .int p1, .int p2, .long p3]) ++ List.replicate (8 - (lg_sl ([.ref (ad 0), .int p1, .int p2, .long p3])).length) Slot.unset).toArray = ls at hl ⊢
  have hl : lv_has ls 8 [(0, .ref (ad 0)), (1, .int p1), (2, .int p2), (3, .long p3)] := hl
  refine lv_iload_n hx hb dX1_told_0 rfl (lv_at hl 1 rfl) ?_
  refine lv_if_le (tgt := 41) hx hb dX1_told_1 (by decide) (fun c_1 => ?_) (fun c_1 => ?_)
  · refine lv_lconst (v := 0) hx hb dX1_told_41 (by decide) ?_
    refine lv_lstore (lv' := [(5, .long 0), (0, .ref (ad 0)), (1, .int p1), (2, .int p2), (3, .long p3)]) hx hb dX1_told_42 hl (by decide) rfl (fun ls hl => ?_)
    refine lv_iconst (v := 0) hx hb dX1_told_44 (by decide) ?_
    refine lv_istore (lv' := [(7, .int 0), (5, .long 0), (0, .ref (ad 0)), (1, .int p1), (2, .int p2), (3, .long p3)]) hx hb dX1_told_45 hl (by decide) rfl (fun ls hl => ?_)
    have hl : lv_has ls 8 [(7, .int (nI 0)), (5, .long (dig y0 0)), (0, .ref (ad 0)), (1, .int p1), (2, .int p2), (3, .long p3)] := hl
    refine yl_told hx hb hts hown hK hP h2 (fun ls hl => ?_) (y1).toNatClampNeg 0 ls (Nat.zero_add _) hl
    refine lv_aload_n hx hb dX1_told_78 rfl (lv_at hl 2 rfl) ?_
    refine va_get (D := D) (ci := 1) (v := .ref (ad 2)) (C := RX1) (T := TX1) (N := 13) hx hb hts (fun _ h => List.mem_cons_of_mem _ (List.mem_append_right _ h)) hown hK hP 0 rfl rfl 2 (by decide) (hts (.fieldLink RX1 13 "PostDesk2Model" "value" "[J") (by decide +kernel)) (fun _ h9 => h9) rfl dX1_told_79 ?_
    refine lv_iload_n hx hb dX1_told_82 rfl (lv_at hl 4 rfl) ?_
    refine va_lald hx hb hK hP 2 1 rfl rfl (h1 c_1) dX1_told_83 ?_
    refine lv_lload_n hx hb dX1_told_84 rfl (lv_at hl 5 rfl) ?_
    refine lv_ladd hx hb dX1_told_85 ?_
    refine lv_lload hx hb dX1_told_86 (lv_at hl 1 rfl) ?_
    refine lv_ladd hx hb dX1_told_88 ?_
    exact W.lret (v := (((y2 (p2).toNatClampNeg) + p3) + (dig y0 (y1).toNatClampNeg))) hx hb hr (fun t ht hW => ⟨(((y2 (p2).toNatClampNeg) + p3) + (dig y0 (y1).toNatClampNeg)), rfl, (by simp only [yf_told, if_pos c_1]), ht⟩) (fun _ h => by cases h) dX1_told_89
  · refine lv_iload_n hx hb dX1_told_4 rfl (lv_at hl 1 rfl) ?_
    refine lv_iconst (v := 1) hx hb dX1_told_5 (by decide) ?_
    refine lv_icmp_ne (tgt := 15) hx hb dX1_told_6 (by decide) (fun c_6 => ?_) (fun c_6 => ?_)
    · refine lv_iload_n hx hb dX1_told_15 rfl (lv_at hl 1 rfl) ?_
      refine lv_iconst (v := 2) hx hb dX1_told_16 (by decide) ?_
      refine lv_icmp_ne (tgt := 26) hx hb dX1_told_17 (by decide) (fun c_17 => ?_) (fun c_17 => ?_)
      · refine lv_iload_n hx hb dX1_told_26 rfl (lv_at hl 1 rfl) ?_
        refine lv_iconst (v := 3) hx hb dX1_told_27 (by decide) ?_
        refine lv_icmp_ne (tgt := 37) hx hb dX1_told_28 (by decide) (fun c_28 => ?_) (fun c_28 => ?_)
        · refine lv_ldc2 (v := (-9000000000000000020)) hx hb hown (hts (.constantLong RX1 47 (-9000000000000000020)) (by decide +kernel)) dX1_told_37 ?_
          exact W.lret (v := (-9000000000000000020)) hx hb hr (fun t ht hW => ⟨(-9000000000000000020), rfl, (by simp only [yf_told, if_neg c_1, if_neg c_6, if_neg c_17, if_neg c_28]), ht⟩) (fun _ h => by cases h) dX1_told_40
        · refine lv_ldc2 (v := (-9000000000000000013)) hx hb hown (hts (.constantLong RX1 45 (-9000000000000000013)) (by decide +kernel)) dX1_told_31 ?_
          refine lv_goto (tgt := 40) hx hb dX1_told_34 (by decide) ?_
          exact W.lret (v := (-9000000000000000013)) hx hb hr (fun t ht hW => ⟨(-9000000000000000013), rfl, (by simp only [yf_told, if_neg c_1, if_neg c_6, if_neg c_17, if_pos c_28]), ht⟩) (fun _ h => by cases h) dX1_told_40
      · refine lv_ldc2 (v := (-9000000000000000011)) hx hb hown (hts (.constantLong RX1 43 (-9000000000000000011)) (by decide +kernel)) dX1_told_20 ?_
        refine lv_goto (tgt := 40) hx hb dX1_told_23 (by decide) ?_
        exact W.lret (v := (-9000000000000000011)) hx hb hr (fun t ht hW => ⟨(-9000000000000000011), rfl, (by simp only [yf_told, if_neg c_1, if_neg c_6, if_pos c_17]), ht⟩) (fun _ h => by cases h) dX1_told_40
    · refine lv_ldc2 (v := (-9000000000000000012)) hx hb hown (hts (.constantLong RX1 41 (-9000000000000000012)) (by decide +kernel)) dX1_told_9 ?_
      refine lv_goto (tgt := 40) hx hb dX1_told_12 (by decide) ?_
      exact W.lret (v := (-9000000000000000012)) hx hb hr (fun t ht hW => ⟨(-9000000000000000012), rfl, (by simp only [yf_told, if_neg c_1, if_pos c_6]), ht⟩) (fun _ h => by cases h) dX1_told_40
def yf_logBehind (u : YS) (p1 : Int32) (p2 : Int32) (p3 : Int32) (p4 : Int64) : Int64 := match u with
  | (_, _, _, y3, _, _, _, _, _, _, _, _, y12) => if p1 = 1 then (y12) else (if p1 = 0 then (((17 * (((1000003 * y12) + (32 * (p3).toInt64)) + (p2).toInt64)) + p4)) else (if p1 = 4 then ((((17 * (((1000003 * y12) + (32 * (p3).toInt64)) + (p2).toInt64)) - 1) - ((y3 (p2).toNatClampNeg)).toInt64)) else (((17 * (((1000003 * y12) + (32 * (p3).toInt64)) + (p2).toInt64)) - 1))))
set_option maxHeartbeats 4000000 in
set_option maxRecDepth 100000 in
theorem yk_logBehind (l : Launch) (D : va_G) (ad : Nat → Nat) (cd : Nat → ClassId) (u : YS) (p1 : Int32) (p2 : Int32) (p3 : Int32) (p4 : Int64) (h1 : p1 = 4 → vp_in p2 20) : Met l yX1_logBehind wsX1_logBehind ({ frames := 0, cells := 0, slots := 0, locals := 0 }) (yPr D ad cd u [.int p1, .int p2, .int p3, .long p4]) (vp_Sl (fun r => r = yf_logBehind u p1 p2 p3 p4)) 0 0 (fun _ => False) := by
  obtain ⟨y0, y1, y2, y3, y4, y5, y6, y7, y8, y9, y10, y11, y12⟩ := u
  refine Met.ofW (cc := cX1_logBehind) (maxL := 8) (ret := (some .long)) (by decide) rfl ?_
  intro p e s m args below meth c s₁ B hml hv
  obtain ⟨rfl, hP, hK⟩ := hv
  have hx := B.exec
  have hb := B.bytes
  have hr := B.returns
  have hts := atoms_spec (ws := wsX1_logBehind) B.pre
  have hown : s.vm.findClass RX1 = some m.cls := findClass_of_methodNamed B.named
  have hlocks := B.notSynchronized
  have hP : va_P D vwCl (yw ad cd (y0, y1, y2, y3, y4, y5, y6, y7, y8, y9, y10, y11, y12)) s.heap := hP
  have hl := lv_entry ([.ref (ad 0), .int p1, .int p2, .int p3, .long p4]) (n := 8) (Nat.le_of_ble_eq_true rfl)
  rw [lg_entry_eq]
  generalize (lg_sl ([.ref (ad 0), .int p1, .int p2, .int p3, .long p4]) ++ List.replicate (8 - (lg_sl ([.ref (ad 0), .int p1, .int p2, .int p3, .long p4])).length) Slot.unset).toArray = ls at hl ⊢
  have hl : lv_has ls 8 [(0, .ref (ad 0)), (1, .int p1), (2, .int p2), (3, .int p3), (4, .long p4)] := hl
  refine lv_iload_n hx hb dX1_logBehind_0 rfl (lv_at hl 1 rfl) ?_
  refine lv_iconst (v := 1) hx hb dX1_logBehind_1 (by decide) ?_
  refine lv_icmp_ne (tgt := 10) hx hb dX1_logBehind_2 (by decide) (fun c_2 => ?_) (fun c_2 => ?_)
  · refine lv_ldc2 (v := 1000003) hx hb hown (hts (.constantLong RX1 51 1000003) (by decide +kernel)) dX1_logBehind_10 ?_
    refine lv_aload_n hx hb dX1_logBehind_13 rfl (lv_at hl 0 rfl) ?_
    refine va_get (D := D) (ci := 1) (v := .long y12) (C := RX1) (T := TX1) (N := 13) hx hb hts (fun _ h => List.mem_cons_of_mem _ (List.mem_append_right _ h)) hown hK hP 0 rfl rfl 12 (by decide) (hts (.fieldLink RX1 29 "PostDesk2Model" "log" "J") (by decide +kernel)) (fun _ h9 => h9) rfl dX1_logBehind_14 ?_
    refine lv_lmul hx hb dX1_logBehind_17 ?_
    refine lv_ldc2 (v := 32) hx hb hown (hts (.constantLong RX1 53 32) (by decide +kernel)) dX1_logBehind_18 ?_
    refine lv_iload_n hx hb dX1_logBehind_21 rfl (lv_at hl 3 rfl) ?_
    refine lv_i2l hx hb dX1_logBehind_22 rfl ?_
    refine lv_lmul hx hb dX1_logBehind_23 ?_
    refine lv_ladd hx hb dX1_logBehind_24 ?_
    refine lv_iload_n hx hb dX1_logBehind_25 rfl (lv_at hl 2 rfl) ?_
    refine lv_i2l hx hb dX1_logBehind_26 rfl ?_
    refine lv_ladd hx hb dX1_logBehind_27 ?_
    refine lv_lstore (lv' := [(6, .long (((1000003 * y12) + (32 * (p3).toInt64)) + (p2).toInt64)), (0, .ref (ad 0)), (1, .int p1), (2, .int p2), (3, .int p3), (4, .long p4)]) hx hb dX1_logBehind_28 hl (by decide) rfl (fun ls hl => ?_)
    refine lv_iload_n hx hb dX1_logBehind_30 rfl (lv_at hl 2 rfl) ?_
    refine lv_if_ne (tgt := 46) hx hb dX1_logBehind_31 (by decide) (fun c_31 => ?_) (fun c_31 => ?_)
    · refine lv_iload_n hx hb dX1_logBehind_46 rfl (lv_at hl 2 rfl) ?_
      refine lv_iconst (v := 4) hx hb dX1_logBehind_47 (by decide) ?_
      refine lv_icmp_ne (tgt := 70) hx hb dX1_logBehind_48 (by decide) (fun c_48 => ?_) (fun c_48 => ?_)
      · refine lv_ldc2 (v := 17) hx hb hown (hts (.constantLong RX1 55 17) (by decide +kernel)) dX1_logBehind_70 ?_
        refine lv_lload hx hb dX1_logBehind_73 (lv_at hl 0 rfl) ?_
        refine lv_lmul hx hb dX1_logBehind_75 ?_
        refine lv_lconst (v := 1) hx hb dX1_logBehind_76 (by decide) ?_
        refine lv_lsub hx hb dX1_logBehind_77 ?_
        exact W.lret (v := ((17 * (((1000003 * y12) + (32 * (p3).toInt64)) + (p2).toInt64)) - 1)) hx hb hr (fun t ht hW => ⟨((17 * (((1000003 * y12) + (32 * (p3).toInt64)) + (p2).toInt64)) - 1), rfl, (by simp only [yf_logBehind, if_neg c_2, if_neg c_31, if_neg c_48]), ht⟩) (fun _ h => by cases h) dX1_logBehind_78
      · refine lv_ldc2 (v := 17) hx hb hown (hts (.constantLong RX1 55 17) (by decide +kernel)) dX1_logBehind_51 ?_
        refine lv_lload hx hb dX1_logBehind_54 (lv_at hl 0 rfl) ?_
        refine lv_lmul hx hb dX1_logBehind_56 ?_
        refine lv_lconst (v := 1) hx hb dX1_logBehind_57 (by decide) ?_
        refine lv_lsub hx hb dX1_logBehind_58 ?_
        refine lv_aload_n hx hb dX1_logBehind_59 rfl (lv_at hl 1 rfl) ?_
        refine va_get (D := D) (ci := 1) (v := .ref (ad 3)) (C := RX1) (T := TX1) (N := 13) hx hb hts (fun _ h => List.mem_cons_of_mem _ (List.mem_append_right _ h)) hown hK hP 0 rfl rfl 3 (by decide) (hts (.fieldLink RX1 16 "PostDesk2Model" "failure" "[I") (by decide +kernel)) (fun _ h9 => h9) rfl dX1_logBehind_60 ?_
        refine lv_iload_n hx hb dX1_logBehind_63 rfl (lv_at hl 3 rfl) ?_
        refine va_iald hx hb hK hP 3 2 rfl rfl (h1 c_48) dX1_logBehind_64 ?_
        refine lv_i2l hx hb dX1_logBehind_65 rfl ?_
        refine lv_lsub hx hb dX1_logBehind_66 ?_
        refine lv_goto (tgt := 78) hx hb dX1_logBehind_67 (by decide) ?_
        exact W.lret (v := (((17 * (((1000003 * y12) + (32 * (p3).toInt64)) + (p2).toInt64)) - 1) - ((y3 (p2).toNatClampNeg)).toInt64)) hx hb hr (fun t ht hW => ⟨(((17 * (((1000003 * y12) + (32 * (p3).toInt64)) + (p2).toInt64)) - 1) - ((y3 (p2).toNatClampNeg)).toInt64), rfl, (by simp only [yf_logBehind, if_neg c_2, if_neg c_31, if_pos c_48]), ht⟩) (fun _ h => by cases h) dX1_logBehind_78
    · refine lv_ldc2 (v := 17) hx hb hown (hts (.constantLong RX1 55 17) (by decide +kernel)) dX1_logBehind_34 ?_
      refine lv_lload hx hb dX1_logBehind_37 (lv_at hl 0 rfl) ?_
      refine lv_lmul hx hb dX1_logBehind_39 ?_
      refine lv_lload hx hb dX1_logBehind_40 (lv_at hl 5 rfl) ?_
      refine lv_ladd hx hb dX1_logBehind_42 ?_
      refine lv_goto (tgt := 78) hx hb dX1_logBehind_43 (by decide) ?_
      exact W.lret (v := ((17 * (((1000003 * y12) + (32 * (p3).toInt64)) + (p2).toInt64)) + p4)) hx hb hr (fun t ht hW => ⟨((17 * (((1000003 * y12) + (32 * (p3).toInt64)) + (p2).toInt64)) + p4), rfl, (by simp only [yf_logBehind, if_neg c_2, if_pos c_31]), ht⟩) (fun _ h => by cases h) dX1_logBehind_78
  · refine lv_aload_n hx hb dX1_logBehind_5 rfl (lv_at hl 0 rfl) ?_
    refine va_get (D := D) (ci := 1) (v := .long y12) (C := RX1) (T := TX1) (N := 13) hx hb hts (fun _ h => List.mem_cons_of_mem _ (List.mem_append_right _ h)) hown hK hP 0 rfl rfl 12 (by decide) (hts (.fieldLink RX1 29 "PostDesk2Model" "log" "J") (by decide +kernel)) (fun _ h9 => h9) rfl dX1_logBehind_6 ?_
    exact W.lret (v := y12) hx hb hr (fun t ht hW => ⟨y12, rfl, (by simp only [yf_logBehind, if_pos c_2]), ht⟩) (fun _ h => by cases h) dX1_logBehind_9
set_option maxHeartbeats 4000000 in
set_option maxRecDepth 100000 in
/-- the loop of numbers: behind k rounds the count of k places -/
theorem yl_numbers {p : Program} {l : Launch} {e : Env} {R : Room} {s : State} {m : MethodId} {args : Array Value} {below : List Frame} {meth : Method} {c : Code} {H : Heap} {locs : List Loc} {cells slots : Nat} {Q : State → Prop} {D : va_G} {ad : Nat → Nat} {cd : Nat → ClassId} {y0 : Nat → Int64} {y1 : Int32} {y2 : Nat → Int64} {y3 y4 y5 : Nat → Int32} {y6 y7 y8 : Int64} {y9 y10 y11 : Int32} {y12 : Int64} {p1 : Int32} (hx : p.tables.exec = Jvm.exec) (hb : c.code = cX1_numbers) (hts : ∀ w ∈ wsX1_numbers, w.before args s = true) (hown : s.vm.findClass RX1 = some m.cls) (hK : va_K D vwCl (yt cd) s) (hP : va_P D vwCl (yw ad cd (y0, y1, y2, y3, y4, y5, y6, y7, y8, y9, y10, y11, y12)) H) (h1 : vp_in p1 10)
    (kk : ∀ ls : Array Slot, lv_has ls 4 [(3, .int (nI 100)), (2, .int (nI (cnt y5 (p1).toNatClampNeg 100))), (0, .ref (ad 0)), (1, .int p1)] → W p l e R s m args below meth c H locs cells slots Q (F0 m 50 ls [])) :
    ∀ (n k : Nat) (ls : Array Slot), k + n = 100 → lv_has ls 4 [(3, .int (nI k)), (2, .int (nI (cnt y5 (p1).toNatClampNeg k))), (0, .ref (ad 0)), (1, .int p1)] → W p l e R s m args below meth c H locs cells slots Q (F0 m 16 ls []) := by
  obtain ⟨K, hK10, rfl⟩ := vp_in_of h1 (by decide)
  have eK : (nI K).toNatClampNeg = K := nI_clamp (by omega)
  rw [eK] at kk ⊢
  intro n
  induction n with
  | zero =>
    intro k ls hk hl
    refine lv_iload_n hx hb dX1_numbers_16 rfl (lv_at hl 0 rfl) ?_
    refine lv_bipush (v := 100) hx hb dX1_numbers_17 (by decide) ?_
    refine lv_icmp_ge (tgt := 50) hx hb dX1_numbers_19 (by decide) (fun c_1 => ?_) (fun c_1 => ?_)
    · rw [Nat.add_zero] at hk
      subst hk
      exact kk ls hl
    · refine absurd ?_ c_1
      rw [Nat.add_zero] at hk
      rw [hk]
      decide
  | succ n ih =>
    intro k ls hk hl
    refine lv_iload_n hx hb dX1_numbers_16 rfl (lv_at hl 0 rfl) ?_
    refine lv_bipush (v := 100) hx hb dX1_numbers_17 (by decide) ?_
    refine lv_icmp_ge (tgt := 50) hx hb dX1_numbers_19 (by decide) (fun c_1 => ?_) (fun c_1 => ?_)
    · refine absurd c_1 ?_
      rw [show (100 : Int32) = nI 100 from rfl]
      exact nI_ge (by omega) (by decide)
    · refine lv_iload_n hx hb dX1_numbers_22 rfl (lv_at hl 1 rfl) ?_
      refine lv_aload_n hx hb dX1_numbers_23 rfl (lv_at hl 2 rfl) ?_
      refine va_get (D := D) (ci := 1) (v := .ref (ad 5)) (C := RX1) (T := TX1) (N := 13) hx hb hts (fun _ h => List.mem_cons_of_mem _ (List.mem_append_right _ h)) hown hK hP 0 rfl rfl 5 (by decide) (hts (.fieldLink RX1 23 "PostDesk2Model" "there" "[Z") (by decide +kernel)) (fun _ h9 => h9) rfl dX1_numbers_24 ?_
      refine lv_bipush (v := 100) hx hb dX1_numbers_27 (by decide) ?_
      refine lv_iload_n hx hb dX1_numbers_29 rfl (lv_at hl 3 rfl) ?_
      refine lv_imul hx hb dX1_numbers_30 ?_
      refine lv_iload_n hx hb dX1_numbers_31 rfl (lv_at hl 0 rfl) ?_
      refine lv_iadd hx hb dX1_numbers_32 ?_
      rw [show (100 : Int32) = nI 100 from rfl, pk_mul, nI_add]
      refine va_zald hx hb hK hP 5 4 rfl rfl (vp_in_nI (by omega) (by decide)) dX1_numbers_33 ?_
      rw [nI_clamp (by omega)]
      have back : ∀ (z : Int32), z = nI (cnt y5 K (k + 1)) → W p l e R s m args below meth c H locs cells slots Q (F0 m 43 ls [.int z]) := by
        intro z ez
        subst ez
        refine lv_istore_n (lv' := [(2, .int (nI (cnt y5 K (k + 1)))), (3, .int (nI k)), (0, .ref (ad 0)), (1, .int (nI K))]) hx hb dX1_numbers_43 rfl hl (by decide) rfl (fun ls hl => ?_)
        refine lv_iinc (v := nI (k + 1)) (lv' := [(3, .int (nI (k + 1))), (2, .int (nI (cnt y5 K (k + 1)))), (0, .ref (ad 0)), (1, .int (nI K))]) hx hb dX1_numbers_44 hl (k := 1) rfl (nI_1 k) (by decide) rfl (fun ls hl => ?_)
        refine lv_goto (tgt := 16) hx hb dX1_numbers_47 (by decide) ?_
        exact ih (k + 1) ls (by omega) hl
      refine lv_if_eq (tgt := 41) hx hb dX1_numbers_34 (by decide) (fun c_2 => ?_) (fun c_2 => ?_)
      · refine lv_iconst (v := 0) hx hb dX1_numbers_41 (by decide) ?_
        refine lv_iadd hx hb dX1_numbers_42 ?_
        exact back _ (by simp only [cnt, if_pos c_2]; exact nI_add _ 0)
      · refine lv_iconst (v := 1) hx hb dX1_numbers_37 (by decide) ?_
        refine lv_goto (tgt := 42) hx hb dX1_numbers_38 (by decide) ?_
        refine lv_iadd hx hb dX1_numbers_42 ?_
        exact back _ (by simp only [cnt, if_neg c_2]; exact nI_add _ 1)
def yf_numbers (u : YS) (p1 : Int32) : Int32 := match u with
  | (_, _, _, _, _, y5, _, _, _, _, _, _, _) => if p1 < 0 then ((-1)) else (if p1 ≤ 9 then (nI (cnt y5 (p1).toNatClampNeg 100)) else ((-1)))
set_option maxHeartbeats 4000000 in
set_option maxRecDepth 100000 in
theorem yk_numbers (l : Launch) (D : va_G) (ad : Nat → Nat) (cd : Nat → ClassId) (u : YS) (p1 : Int32)  : Met l yX1_numbers wsX1_numbers ({ frames := 0, cells := 0, slots := 0, locals := 0 }) (yPr D ad cd u [.int p1]) (vp_Si (fun r => r = yf_numbers u p1)) 0 0 (fun _ => False) := by
  obtain ⟨y0, y1, y2, y3, y4, y5, y6, y7, y8, y9, y10, y11, y12⟩ := u
  refine Met.ofW (cc := cX1_numbers) (maxL := 4) (ret := (some .int)) (by decide) rfl ?_
  intro p e s m args below meth c s₁ B hml hv
  obtain ⟨rfl, hP, hK⟩ := hv
  have hx := B.exec
  have hb := B.bytes
  have hr := B.returns
  have hts := atoms_spec (ws := wsX1_numbers) B.pre
  have hown : s.vm.findClass RX1 = some m.cls := findClass_of_methodNamed B.named
  have hlocks := B.notSynchronized
  have hP : va_P D vwCl (yw ad cd (y0, y1, y2, y3, y4, y5, y6, y7, y8, y9, y10, y11, y12)) s.heap := hP
  have hl := lv_entry ([.ref (ad 0), .int p1]) (n := 4) (Nat.le_of_ble_eq_true rfl)
  rw [lg_entry_eq]
  generalize (lg_sl ([.ref (ad 0), .int p1]) ++ List.replicate (4 - (lg_sl ([.ref (ad 0), .int p1])).length) Slot.unset).toArray = ls at hl ⊢
  have hl : lv_has ls 4 [(0, .ref (ad 0)), (1, .int p1)] := hl
  refine lv_iload_n hx hb dX1_numbers_0 rfl (lv_at hl 1 rfl) ?_
  refine lv_if_lt (tgt := 10) hx hb dX1_numbers_1 (by decide) (fun c_1 => ?_) (fun c_1 => ?_)
  · refine lv_iconst (v := (-1)) hx hb dX1_numbers_10 (by decide) ?_
    exact W.iret (v := (-1)) hx hb hr (fun t ht hW => ⟨(-1), rfl, (by simp only [yf_numbers, if_pos c_1]), ht⟩) (fun _ h => by cases h) dX1_numbers_11
  · refine lv_iload_n hx hb dX1_numbers_4 rfl (lv_at hl 1 rfl) ?_
    refine lv_bipush (v := 9) hx hb dX1_numbers_5 (by decide) ?_
    refine lv_icmp_le (tgt := 12) hx hb dX1_numbers_7 (by decide) (fun c_7 => ?_) (fun c_7 => ?_)
    · refine lv_iconst (v := 0) hx hb dX1_numbers_12 (by decide) ?_
      refine lv_istore_n (lv' := [(2, .int 0), (0, .ref (ad 0)), (1, .int p1)]) hx hb dX1_numbers_13 rfl hl (by decide) rfl (fun ls hl => ?_)
      refine lv_iconst (v := 0) hx hb dX1_numbers_14 (by decide) ?_
      refine lv_istore_n (lv' := [(3, .int 0), (2, .int 0), (0, .ref (ad 0)), (1, .int p1)]) hx hb dX1_numbers_15 rfl hl (by decide) rfl (fun ls hl => ?_)
      have hl : lv_has ls 4 [(3, .int (nI 0)), (2, .int (nI (cnt y5 (p1).toNatClampNeg 0))), (0, .ref (ad 0)), (1, .int p1)] := hl
      refine yl_numbers hx hb hts hown hK hP (yk_in c_1 c_7) (fun ls hl => ?_) 100 0 ls (Nat.zero_add _) hl
      refine lv_iload_n hx hb dX1_numbers_50 rfl (lv_at hl 1 rfl) ?_
      exact W.iret (v := nI (cnt y5 (p1).toNatClampNeg 100)) hx hb hr (fun t ht hW => ⟨nI (cnt y5 (p1).toNatClampNeg 100), rfl, (by simp only [yf_numbers, if_neg c_1, if_pos c_7]), ht⟩) (fun _ h => by cases h) dX1_numbers_51
    · refine lv_iconst (v := (-1)) hx hb dX1_numbers_10 (by decide) ?_
      exact W.iret (v := (-1)) hx hb hr (fun t ht hW => ⟨(-1), rfl, (by simp only [yf_numbers, if_neg c_1, if_neg c_7]), ht⟩) (fun _ h => by cases h) dX1_numbers_11
def yf_tell (u : YS) (p1 : Int32) : Int64 := match u with
  | (_, y1, _, _, _, _, y6, y7, y8, y9, y10, y11, y12) => if p1 = 0 then (y6) else if p1 = 1 then (y7) else if p1 = 2 then (y8) else if p1 = 3 then ((y9).toInt64) else if p1 = 4 then ((y10).toInt64) else if p1 = 5 then ((y11).toInt64) else if p1 = 6 then ((y1).toInt64) else if p1 = 7 then (y12) else 0
set_option maxHeartbeats 4000000 in
set_option maxRecDepth 100000 in
theorem yk_tell (l : Launch) (D : va_G) (ad : Nat → Nat) (cd : Nat → ClassId) (u : YS) (p1 : Int32)  : Met l yX1_tell wsX1_tell ({ frames := 0, cells := 0, slots := 0, locals := 0 }) (yPr D ad cd u [.int p1]) (vp_Sl (fun r => r = yf_tell u p1)) 0 0 (fun _ => False) := by
  obtain ⟨y0, y1, y2, y3, y4, y5, y6, y7, y8, y9, y10, y11, y12⟩ := u
  refine Met.ofW (cc := cX1_tell) (maxL := 2) (ret := (some .long)) (by decide) rfl ?_
  intro p e s m args below meth c s₁ B hml hv
  obtain ⟨rfl, hP, hK⟩ := hv
  have hx := B.exec
  have hb := B.bytes
  have hr := B.returns
  have hts := atoms_spec (ws := wsX1_tell) B.pre
  have hown : s.vm.findClass RX1 = some m.cls := findClass_of_methodNamed B.named
  have hlocks := B.notSynchronized
  have hP : va_P D vwCl (yw ad cd (y0, y1, y2, y3, y4, y5, y6, y7, y8, y9, y10, y11, y12)) s.heap := hP
  have hl := lv_entry ([.ref (ad 0), .int p1]) (n := 2) (Nat.le_of_ble_eq_true rfl)
  rw [lg_entry_eq]
  generalize (lg_sl ([.ref (ad 0), .int p1]) ++ List.replicate (2 - (lg_sl ([.ref (ad 0), .int p1])).length) Slot.unset).toArray = ls at hl ⊢
  have hl : lv_has ls 2 [(0, .ref (ad 0)), (1, .int p1)] := hl
  refine lv_iload_n hx hb dX1_tell_0 rfl (lv_at hl 1 rfl) ?_
  by_cases c_1_0 : p1 = 0
  · refine lv_tableIn (tgt := 48) hx hb dX1_tell_1 (by rw [c_1_0]; decide) (by rw [c_1_0]; decide) (by rw [c_1_0]; rfl) (by decide) ?_
    refine lv_aload_n hx hb dX1_tell_48 rfl (lv_at hl 0 rfl) ?_
    refine va_get (D := D) (ci := 1) (v := .long y6) (C := RX1) (T := TX1) (N := 13) hx hb hts (fun _ h => List.mem_cons_of_mem _ (List.mem_append_right _ h)) hown hK hP 0 rfl rfl 6 (by decide) (hts (.fieldLink RX1 69 "PostDesk2Model" "answered" "J") (by decide +kernel)) (fun _ h9 => h9) rfl dX1_tell_49 ?_
    exact W.lret (v := y6) hx hb hr (fun t ht hW => ⟨y6, rfl, (by simp only [yf_tell, if_pos c_1_0]), ht⟩) (fun _ h => by cases h) dX1_tell_52
  by_cases c_1_1 : p1 = 1
  · refine lv_tableIn (tgt := 53) hx hb dX1_tell_1 (by rw [c_1_1]; decide) (by rw [c_1_1]; decide) (by rw [c_1_1]; rfl) (by decide) ?_
    refine lv_aload_n hx hb dX1_tell_53 rfl (lv_at hl 0 rfl) ?_
    refine va_get (D := D) (ci := 1) (v := .long y7) (C := RX1) (T := TX1) (N := 13) hx hb hts (fun _ h => List.mem_cons_of_mem _ (List.mem_append_right _ h)) hown hK hP 0 rfl rfl 7 (by decide) (hts (.fieldLink RX1 84 "PostDesk2Model" "refused" "J") (by decide +kernel)) (fun _ h9 => h9) rfl dX1_tell_54 ?_
    exact W.lret (v := y7) hx hb hr (fun t ht hW => ⟨y7, rfl, (by simp only [yf_tell, if_neg c_1_0, if_pos c_1_1]), ht⟩) (fun _ h => by cases h) dX1_tell_57
  by_cases c_1_2 : p1 = 2
  · refine lv_tableIn (tgt := 58) hx hb dX1_tell_1 (by rw [c_1_2]; decide) (by rw [c_1_2]; decide) (by rw [c_1_2]; rfl) (by decide) ?_
    refine lv_aload_n hx hb dX1_tell_58 rfl (lv_at hl 0 rfl) ?_
    refine va_get (D := D) (ci := 1) (v := .long y8) (C := RX1) (T := TX1) (N := 13) hx hb hts (fun _ h => List.mem_cons_of_mem _ (List.mem_append_right _ h)) hown hK hP 0 rfl rfl 8 (by decide) (hts (.fieldLink RX1 72 "PostDesk2Model" "failed" "J") (by decide +kernel)) (fun _ h9 => h9) rfl dX1_tell_59 ?_
    exact W.lret (v := y8) hx hb hr (fun t ht hW => ⟨y8, rfl, (by simp only [yf_tell, if_neg c_1_0, if_neg c_1_1, if_pos c_1_2]), ht⟩) (fun _ h => by cases h) dX1_tell_62
  by_cases c_1_3 : p1 = 3
  · refine lv_tableIn (tgt := 63) hx hb dX1_tell_1 (by rw [c_1_3]; decide) (by rw [c_1_3]; decide) (by rw [c_1_3]; rfl) (by decide) ?_
    refine lv_aload_n hx hb dX1_tell_63 rfl (lv_at hl 0 rfl) ?_
    refine va_get (D := D) (ci := 1) (v := .int y9) (C := RX1) (T := TX1) (N := 13) hx hb hts (fun _ h => List.mem_cons_of_mem _ (List.mem_append_right _ h)) hown hK hP 0 rfl rfl 9 (by decide) (hts (.fieldLink RX1 75 "PostDesk2Model" "kindOf" "I") (by decide +kernel)) (fun _ h9 => h9) rfl dX1_tell_64 ?_
    refine lv_i2l hx hb dX1_tell_67 rfl ?_
    exact W.lret (v := (y9).toInt64) hx hb hr (fun t ht hW => ⟨(y9).toInt64, rfl, (by simp only [yf_tell, if_neg c_1_0, if_neg c_1_1, if_neg c_1_2, if_pos c_1_3]), ht⟩) (fun _ h => by cases h) dX1_tell_68
  by_cases c_1_4 : p1 = 4
  · refine lv_tableIn (tgt := 69) hx hb dX1_tell_1 (by rw [c_1_4]; decide) (by rw [c_1_4]; decide) (by rw [c_1_4]; rfl) (by decide) ?_
    refine lv_aload_n hx hb dX1_tell_69 rfl (lv_at hl 0 rfl) ?_
    refine va_get (D := D) (ci := 1) (v := .int y10) (C := RX1) (T := TX1) (N := 13) hx hb hts (fun _ h => List.mem_cons_of_mem _ (List.mem_append_right _ h)) hown hK hP 0 rfl rfl 10 (by decide) (hts (.fieldLink RX1 78 "PostDesk2Model" "numberOf" "I") (by decide +kernel)) (fun _ h9 => h9) rfl dX1_tell_70 ?_
    refine lv_i2l hx hb dX1_tell_73 rfl ?_
    exact W.lret (v := (y10).toInt64) hx hb hr (fun t ht hW => ⟨(y10).toInt64, rfl, (by simp only [yf_tell, if_neg c_1_0, if_neg c_1_1, if_neg c_1_2, if_neg c_1_3, if_pos c_1_4]), ht⟩) (fun _ h => by cases h) dX1_tell_74
  by_cases c_1_5 : p1 = 5
  · refine lv_tableIn (tgt := 75) hx hb dX1_tell_1 (by rw [c_1_5]; decide) (by rw [c_1_5]; decide) (by rw [c_1_5]; rfl) (by decide) ?_
    refine lv_aload_n hx hb dX1_tell_75 rfl (lv_at hl 0 rfl) ?_
    refine va_get (D := D) (ci := 1) (v := .int y11) (C := RX1) (T := TX1) (N := 13) hx hb hts (fun _ h => List.mem_cons_of_mem _ (List.mem_append_right _ h)) hown hK hP 0 rfl rfl 11 (by decide) (hts (.fieldLink RX1 81 "PostDesk2Model" "callOf" "I") (by decide +kernel)) (fun _ h9 => h9) rfl dX1_tell_76 ?_
    refine lv_i2l hx hb dX1_tell_79 rfl ?_
    exact W.lret (v := (y11).toInt64) hx hb hr (fun t ht hW => ⟨(y11).toInt64, rfl, (by simp only [yf_tell, if_neg c_1_0, if_neg c_1_1, if_neg c_1_2, if_neg c_1_3, if_neg c_1_4, if_pos c_1_5]), ht⟩) (fun _ h => by cases h) dX1_tell_80
  by_cases c_1_6 : p1 = 6
  · refine lv_tableIn (tgt := 81) hx hb dX1_tell_1 (by rw [c_1_6]; decide) (by rw [c_1_6]; decide) (by rw [c_1_6]; rfl) (by decide) ?_
    refine lv_aload_n hx hb dX1_tell_81 rfl (lv_at hl 0 rfl) ?_
    refine va_get (D := D) (ci := 1) (v := .int y1) (C := RX1) (T := TX1) (N := 13) hx hb hts (fun _ h => List.mem_cons_of_mem _ (List.mem_append_right _ h)) hown hK hP 0 rfl rfl 1 (by decide) (hts (.fieldLink RX1 33 "PostDesk2Model" "many" "I") (by decide +kernel)) (fun _ h9 => h9) rfl dX1_tell_82 ?_
    refine lv_i2l hx hb dX1_tell_85 rfl ?_
    exact W.lret (v := (y1).toInt64) hx hb hr (fun t ht hW => ⟨(y1).toInt64, rfl, (by simp only [yf_tell, if_neg c_1_0, if_neg c_1_1, if_neg c_1_2, if_neg c_1_3, if_neg c_1_4, if_neg c_1_5, if_pos c_1_6]), ht⟩) (fun _ h => by cases h) dX1_tell_86
  by_cases c_1_7 : p1 = 7
  · refine lv_tableIn (tgt := 87) hx hb dX1_tell_1 (by rw [c_1_7]; decide) (by rw [c_1_7]; decide) (by rw [c_1_7]; rfl) (by decide) ?_
    refine lv_aload_n hx hb dX1_tell_87 rfl (lv_at hl 0 rfl) ?_
    refine va_get (D := D) (ci := 1) (v := .long y12) (C := RX1) (T := TX1) (N := 13) hx hb hts (fun _ h => List.mem_cons_of_mem _ (List.mem_append_right _ h)) hown hK hP 0 rfl rfl 12 (by decide) (hts (.fieldLink RX1 29 "PostDesk2Model" "log" "J") (by decide +kernel)) (fun _ h9 => h9) rfl dX1_tell_88 ?_
    exact W.lret (v := y12) hx hb hr (fun t ht hW => ⟨y12, rfl, (by simp only [yf_tell, if_neg c_1_0, if_neg c_1_1, if_neg c_1_2, if_neg c_1_3, if_neg c_1_4, if_neg c_1_5, if_neg c_1_6, if_pos c_1_7]), ht⟩) (fun _ h => by cases h) dX1_tell_91
  refine lv_tableOut (tgt := 92) hx hb dX1_tell_1 (sw_out8 c_1_0 c_1_1 c_1_2 c_1_3 c_1_4 c_1_5 c_1_6 c_1_7) (by decide) ?_
  refine lv_lconst (v := 0) hx hb dX1_tell_92 (by decide) ?_
  exact W.lret (v := 0) hx hb hr (fun t ht hW => ⟨0, rfl, (by simp only [yf_tell, if_neg c_1_0, if_neg c_1_1, if_neg c_1_2, if_neg c_1_3, if_neg c_1_4, if_neg c_1_5, if_neg c_1_6, if_neg c_1_7]), ht⟩) (fun _ h => by cases h) dX1_tell_93
def yf_again (u : YS) (p1 : Int32) (p2 : Int32) (p3 : Int64) : Int64 := match u with
  | (y0, y1, y2, y3, y4, y5, y6, y7, y8, y9, y10, y11, y12) => (yf_told (y0, y1, y2, y3, y4, y5, y6, y7, y8, y9, y10, y11, y12) (yf_way (y0, y1, y2, y3, y4, y5, y6, y7, y8, y9, y10, y11, y12) p1 p2) p1 p3)
set_option maxHeartbeats 4000000 in
set_option maxRecDepth 100000 in
theorem yk_again (l : Launch) (D : va_G) (ad : Nat → Nat) (cd : Nat → ClassId) (u : YS) (p1 : Int32) (p2 : Int32) (p3 : Int64) (h2 : u.2.1 = nI (u.2.1).toNatClampNeg ∧ (u.2.1).toNatClampNeg ≤ 40) : Met l yX1_again wsX1_again ({ frames := 2, cells := 0, slots := 0, locals := 43 }) (yPr D ad cd u [.int p1, .int p2, .long p3]) (vp_Sl (fun r => r = yf_again u p1 p2 p3)) 0 0 (fun _ => False) := by
  obtain ⟨y0, y1, y2, y3, y4, y5, y6, y7, y8, y9, y10, y11, y12⟩ := u
  refine Met.ofW (cc := cX1_again) (maxL := 5) (ret := (some .long)) (by decide) rfl ?_
  intro p e s m args below meth c s₁ B hml hv
  obtain ⟨rfl, hP, hK⟩ := hv
  have hx := B.exec
  have hb := B.bytes
  have hr := B.returns
  have hts := atoms_spec (ws := wsX1_again) B.pre
  have hown : s.vm.findClass RX1 = some m.cls := findClass_of_methodNamed B.named
  have hlocks := B.notSynchronized
  have hP : va_P D vwCl (yw ad cd (y0, y1, y2, y3, y4, y5, y6, y7, y8, y9, y10, y11, y12)) s.heap := hP
  have hl := lv_entry ([.ref (ad 0), .int p1, .int p2, .long p3]) (n := 5) (Nat.le_of_ble_eq_true rfl)
  rw [lg_entry_eq]
  generalize (lg_sl ([.ref (ad 0), .int p1, .int p2, .long p3]) ++ List.replicate (5 - (lg_sl ([.ref (ad 0), .int p1, .int p2, .long p3])).length) Slot.unset).toArray = ls at hl ⊢
  have hl : lv_has ls 5 [(0, .ref (ad 0)), (1, .int p1), (2, .int p2), (3, .long p3)] := hl
  refine lv_aload_n hx hb dX1_again_0 rfl (lv_at hl 0 rfl) ?_
  refine lv_aload_n hx hb dX1_again_1 rfl (lv_at hl 0 rfl) ?_
  refine lv_iload_n hx hb dX1_again_2 rfl (lv_at hl 1 rfl) ?_
  refine lv_iload_n hx hb dX1_again_3 rfl (lv_at hl 2 rfl) ?_
  refine vp_callSi (W.runV (As := [.int p1, .int p2]) (rest := [.ref (ad 0)]) ⟨hx, hb, hml, hown, hts⟩ (yk_way l D ad cd (y0, y1, y2, y3, y4, y5, y6, y7, y8, y9, y10, y11, y12) p1 p2) (cwV 2 hts gX1_again_X1_way rfl rfl rfl (by decide +kernel) ⟨Nat.le_of_ble_eq_true rfl, Nat.le_of_ble_eq_true rfl⟩) ⟨fun a U g mk q => ⟨q.1, q.2.1, va_K.moved (u := U) (U := U.calling g mk a) (Vm.Alike.refl U.vm) q.2.2⟩, va_recv hK hP (ci := 1) (q0 := 0) rfl rfl, fun U hU hW => ⟨rfl, by rw [hU]; exact hP, va_K.moved hW.alike hK⟩⟩ rfl rfl hl.1 rfl (lv_room (Nat.le_of_ble_eq_true rfl)) dX1_again_4 ⟨Nat.zero_le _, Nat.zero_le _⟩) (fun r_4 hr_4 => ?_)
  subst hr_4
  refine lv_iload_n hx hb dX1_again_7 rfl (lv_at hl 1 rfl) ?_
  refine lv_lload_n hx hb dX1_again_8 rfl (lv_at hl 3 rfl) ?_
  refine vp_callSl (W.runV (As := [.int (yf_way (y0, y1, y2, y3, y4, y5, y6, y7, y8, y9, y10, y11, y12) p1 p2), .int p1, .long p3]) (rest := []) ⟨hx, hb, hml, hown, hts⟩ (yk_told l D ad cd (y0, y1, y2, y3, y4, y5, y6, y7, y8, y9, y10, y11, y12) (yf_way (y0, y1, y2, y3, y4, y5, y6, y7, y8, y9, y10, y11, y12) p1 p2) p1 p3 (ywy_le _ _ _) h2) (cwV 3 hts gX1_again_X1_told rfl rfl rfl (by decide +kernel) ⟨Nat.le_of_ble_eq_true rfl, Nat.le_of_ble_eq_true rfl⟩) ⟨fun a U g mk q => ⟨q.1, q.2.1, va_K.moved (u := U) (U := U.calling g mk a) (Vm.Alike.refl U.vm) q.2.2⟩, va_recv hK hP (ci := 1) (q0 := 0) rfl rfl, fun U hU hW => ⟨rfl, by rw [hU]; exact hP, va_K.moved hW.alike hK⟩⟩ rfl rfl hl.1 rfl (lv_room (Nat.le_of_ble_eq_true rfl)) dX1_again_9 ⟨Nat.zero_le _, Nat.zero_le _⟩) (fun r_9 hr_9 => ?_)
  subst hr_9
  exact W.lret (v := (yf_told (y0, y1, y2, y3, y4, y5, y6, y7, y8, y9, y10, y11, y12) (yf_way (y0, y1, y2, y3, y4, y5, y6, y7, y8, y9, y10, y11, y12) p1 p2) p1 p3)) hx hb hr (fun t ht hW => ⟨(yf_told (y0, y1, y2, y3, y4, y5, y6, y7, y8, y9, y10, y11, y12) (yf_way (y0, y1, y2, y3, y4, y5, y6, y7, y8, y9, y10, y11, y12) p1 p2) p1 p3), rfl, (by simp only [yf_again]), ht⟩) (fun _ h => by cases h) dX1_again_12
def yf_log (u : YS) (p1 : Int32) (p2 : Int32) (p3 : Int64) : Int64 := match u with
  | (y0, y1, y2, y3, y4, y5, y6, y7, y8, y9, y10, y11, y12) => (yf_logBehind (y0, y1, y2, y3, y4, y5, y6, y7, y8, y9, y10, y11, y12) (yf_way (y0, y1, y2, y3, y4, y5, y6, y7, y8, y9, y10, y11, y12) p1 p2) p1 p2 (yf_told (y0, y1, y2, y3, y4, y5, y6, y7, y8, y9, y10, y11, y12) (yf_way (y0, y1, y2, y3, y4, y5, y6, y7, y8, y9, y10, y11, y12) p1 p2) p1 p3))
set_option maxHeartbeats 4000000 in
set_option maxRecDepth 100000 in
theorem yk_log (l : Launch) (D : va_G) (ad : Nat → Nat) (cd : Nat → ClassId) (u : YS) (p1 : Int32) (p2 : Int32) (p3 : Int64) (h2 : u.2.1 = nI (u.2.1).toNatClampNeg ∧ (u.2.1).toNatClampNeg ≤ 40) : Met l yX1_log wsX1_log ({ frames := 2, cells := 0, slots := 0, locals := 43 }) (yPr D ad cd u [.int p1, .int p2, .long p3]) (vp_Sl (fun r => r = yf_log u p1 p2 p3)) 0 0 (fun _ => False) := by
  obtain ⟨y0, y1, y2, y3, y4, y5, y6, y7, y8, y9, y10, y11, y12⟩ := u
  refine Met.ofW (cc := cX1_log) (maxL := 6) (ret := (some .long)) (by decide) rfl ?_
  intro p e s m args below meth c s₁ B hml hv
  obtain ⟨rfl, hP, hK⟩ := hv
  have hx := B.exec
  have hb := B.bytes
  have hr := B.returns
  have hts := atoms_spec (ws := wsX1_log) B.pre
  have hown : s.vm.findClass RX1 = some m.cls := findClass_of_methodNamed B.named
  have hlocks := B.notSynchronized
  have hP : va_P D vwCl (yw ad cd (y0, y1, y2, y3, y4, y5, y6, y7, y8, y9, y10, y11, y12)) s.heap := hP
  have hl := lv_entry ([.ref (ad 0), .int p1, .int p2, .long p3]) (n := 6) (Nat.le_of_ble_eq_true rfl)
  rw [lg_entry_eq]
  generalize (lg_sl ([.ref (ad 0), .int p1, .int p2, .long p3]) ++ List.replicate (6 - (lg_sl ([.ref (ad 0), .int p1, .int p2, .long p3])).length) Slot.unset).toArray = ls at hl ⊢
  have hl : lv_has ls 6 [(0, .ref (ad 0)), (1, .int p1), (2, .int p2), (3, .long p3)] := hl
  refine lv_aload_n hx hb dX1_log_0 rfl (lv_at hl 0 rfl) ?_
  refine lv_iload_n hx hb dX1_log_1 rfl (lv_at hl 1 rfl) ?_
  refine lv_iload_n hx hb dX1_log_2 rfl (lv_at hl 2 rfl) ?_
  refine vp_callSi (W.runV (As := [.int p1, .int p2]) (rest := []) ⟨hx, hb, hml, hown, hts⟩ (yk_way l D ad cd (y0, y1, y2, y3, y4, y5, y6, y7, y8, y9, y10, y11, y12) p1 p2) (cwV 2 hts gX1_log_X1_way rfl rfl rfl (by decide +kernel) ⟨Nat.le_of_ble_eq_true rfl, Nat.le_of_ble_eq_true rfl⟩) ⟨fun a U g mk q => ⟨q.1, q.2.1, va_K.moved (u := U) (U := U.calling g mk a) (Vm.Alike.refl U.vm) q.2.2⟩, va_recv hK hP (ci := 1) (q0 := 0) rfl rfl, fun U hU hW => ⟨rfl, by rw [hU]; exact hP, va_K.moved hW.alike hK⟩⟩ rfl rfl hl.1 rfl (lv_room (Nat.le_of_ble_eq_true rfl)) dX1_log_3 ⟨Nat.zero_le _, Nat.zero_le _⟩) (fun r_3 hr_3 => ?_)
  subst hr_3
  refine lv_istore (lv' := [(5, .int (yf_way (y0, y1, y2, y3, y4, y5, y6, y7, y8, y9, y10, y11, y12) p1 p2)), (0, .ref (ad 0)), (1, .int p1), (2, .int p2), (3, .long p3)]) hx hb dX1_log_6 hl (by decide) rfl (fun ls hl => ?_)
  refine lv_aload_n hx hb dX1_log_8 rfl (lv_at hl 1 rfl) ?_
  refine lv_iload hx hb dX1_log_9 (lv_at hl 0 rfl) ?_
  refine lv_iload_n hx hb dX1_log_11 rfl (lv_at hl 2 rfl) ?_
  refine lv_iload_n hx hb dX1_log_12 rfl (lv_at hl 3 rfl) ?_
  refine lv_aload_n hx hb dX1_log_13 rfl (lv_at hl 1 rfl) ?_
  refine lv_iload hx hb dX1_log_14 (lv_at hl 0 rfl) ?_
  refine lv_iload_n hx hb dX1_log_16 rfl (lv_at hl 2 rfl) ?_
  refine lv_lload_n hx hb dX1_log_17 rfl (lv_at hl 4 rfl) ?_
  refine vp_callSl (W.runV (As := [.int (yf_way (y0, y1, y2, y3, y4, y5, y6, y7, y8, y9, y10, y11, y12) p1 p2), .int p1, .long p3]) (rest := [.int p2, .int p1, .int (yf_way (y0, y1, y2, y3, y4, y5, y6, y7, y8, y9, y10, y11, y12) p1 p2), .ref (ad 0)]) ⟨hx, hb, hml, hown, hts⟩ (yk_told l D ad cd (y0, y1, y2, y3, y4, y5, y6, y7, y8, y9, y10, y11, y12) (yf_way (y0, y1, y2, y3, y4, y5, y6, y7, y8, y9, y10, y11, y12) p1 p2) p1 p3 (ywy_le _ _ _) h2) (cwV 3 hts gX1_log_X1_told rfl rfl rfl (by decide +kernel) ⟨Nat.le_of_ble_eq_true rfl, Nat.le_of_ble_eq_true rfl⟩) ⟨fun a U g mk q => ⟨q.1, q.2.1, va_K.moved (u := U) (U := U.calling g mk a) (Vm.Alike.refl U.vm) q.2.2⟩, va_recv hK hP (ci := 1) (q0 := 0) rfl rfl, fun U hU hW => ⟨rfl, by rw [hU]; exact hP, va_K.moved hW.alike hK⟩⟩ rfl rfl hl.1 rfl (lv_room (Nat.le_of_ble_eq_true rfl)) dX1_log_18 ⟨Nat.zero_le _, Nat.zero_le _⟩) (fun r_18 hr_18 => ?_)
  subst hr_18
  refine vp_callSl (W.runV (As := [.int (yf_way (y0, y1, y2, y3, y4, y5, y6, y7, y8, y9, y10, y11, y12) p1 p2), .int p1, .int p2, .long (yf_told (y0, y1, y2, y3, y4, y5, y6, y7, y8, y9, y10, y11, y12) (yf_way (y0, y1, y2, y3, y4, y5, y6, y7, y8, y9, y10, y11, y12) p1 p2) p1 p3)]) (rest := []) ⟨hx, hb, hml, hown, hts⟩ (yk_logBehind l D ad cd (y0, y1, y2, y3, y4, y5, y6, y7, y8, y9, y10, y11, y12) (yf_way (y0, y1, y2, y3, y4, y5, y6, y7, y8, y9, y10, y11, y12) p1 p2) p1 p2 (yf_told (y0, y1, y2, y3, y4, y5, y6, y7, y8, y9, y10, y11, y12) (yf_way (y0, y1, y2, y3, y4, y5, y6, y7, y8, y9, y10, y11, y12) p1 p2) p1 p3) (ywy_4 _ _ _)) (cwV 4 hts gX1_log_X1_logBehind rfl rfl rfl (by decide +kernel) ⟨Nat.le_of_ble_eq_true rfl, Nat.le_of_ble_eq_true rfl⟩) ⟨fun a U g mk q => ⟨q.1, q.2.1, va_K.moved (u := U) (U := U.calling g mk a) (Vm.Alike.refl U.vm) q.2.2⟩, va_recv hK hP (ci := 1) (q0 := 0) rfl rfl, fun U hU hW => ⟨rfl, by rw [hU]; exact hP, va_K.moved hW.alike hK⟩⟩ rfl rfl hl.1 rfl (lv_room (Nat.le_of_ble_eq_true rfl)) dX1_log_21 ⟨Nat.zero_le _, Nat.zero_le _⟩) (fun r_21 hr_21 => ?_)
  subst hr_21
  exact W.lret (v := (yf_logBehind (y0, y1, y2, y3, y4, y5, y6, y7, y8, y9, y10, y11, y12) (yf_way (y0, y1, y2, y3, y4, y5, y6, y7, y8, y9, y10, y11, y12) p1 p2) p1 p2 (yf_told (y0, y1, y2, y3, y4, y5, y6, y7, y8, y9, y10, y11, y12) (yf_way (y0, y1, y2, y3, y4, y5, y6, y7, y8, y9, y10, y11, y12) p1 p2) p1 p3))) hx hb hr (fun t ht hW => ⟨(yf_logBehind (y0, y1, y2, y3, y4, y5, y6, y7, y8, y9, y10, y11, y12) (yf_way (y0, y1, y2, y3, y4, y5, y6, y7, y8, y9, y10, y11, y12) p1 p2) p1 p2 (yf_told (y0, y1, y2, y3, y4, y5, y6, y7, y8, y9, y10, y11, y12) (yf_way (y0, y1, y2, y3, y4, y5, y6, y7, y8, y9, y10, y11, y12) p1 p2) p1 p3)), rfl, (by simp only [yf_log]), ht⟩) (fun _ h => by cases h) dX1_log_24
end
section
def yf_collect (u : YS) (p1 : Int64) : Int32 × YS := match u with
  | (y0, y1, y2, y3, y4, y5, y6, y7, y8, y9, y10, y11, y12) => if y1 = 40 then (((-14), (y0, y1, y2, y3, y4, y5, y6, y7, y8, y9, y10, y11, y12))) else (((y1 + 1), ((vp_updL y0 (y1).toNatClampNeg p1), (y1 + 1), y2, y3, y4, y5, y6, y7, y8, y9, y10, y11, y12)))
set_option maxHeartbeats 4000000 in
set_option maxRecDepth 100000 in
theorem yk_collect (l : Launch) (D : va_G) (ad : Nat → Nat) (cd : Nat → ClassId) (u : YS) (sz : Nat) (p1 : Int64) (h2 : u.2.1 = nI (u.2.1).toNatClampNeg ∧ (u.2.1).toNatClampNeg ≤ 40) : Met l yX1_collect wsX1_collect ({ frames := 0, cells := 0, slots := 0, locals := 0 }) (yPc D ad cd u sz [.long p1]) (va_Qi (fun r u2 => (r, u2) = yf_collect u p1) (yat D ad cd (va_A (yw ad cd u) sz)) (va_A (yw ad cd u) sz)) 0 0 (va_A (yw ad cd u) sz) := by
  obtain ⟨y0, y1, y2, y3, y4, y5, y6, y7, y8, y9, y10, y11, y12⟩ := u
  refine Met.ofW (cc := cX1_collect) (maxL := 3) (ret := (some .int)) (by decide) rfl ?_
  intro p e s m args below meth c s₁ B hml hv
  obtain ⟨rfl, hsz, hP, hK, hD0⟩ := hv
  have hx := B.exec
  have hb := B.bytes
  have hr := B.returns
  have hts := atoms_spec (ws := wsX1_collect) B.pre
  have hown : s.vm.findClass RX1 = some m.cls := findClass_of_methodNamed B.named
  have hlocks := B.notSynchronized
  subst hsz
  have hD := hD0.self (sz := s.heap.size)
  generalize hAe : va_A (yw ad cd (y0, y1, y2, y3, y4, y5, y6, y7, y8, y9, y10, y11, y12)) s.heap.size = A at hD ⊢
  have hA : ∀ q : Nat, s.heap.size ≤ q → A q := fun q h => by rw [← hAe]; exact Or.inr h
  have hS : va_S A s.heap s.heap [] := va_S.rf
  have hP : va_P D vwCl (yw ad cd (y0, y1, y2, y3, y4, y5, y6, y7, y8, y9, y10, y11, y12)) s.heap := hP
  have hl := lv_entry ([.ref (ad 0), .long p1]) (n := 3) (Nat.le_of_ble_eq_true rfl)
  rw [lg_entry_eq]
  generalize (lg_sl ([.ref (ad 0), .long p1]) ++ List.replicate (3 - (lg_sl ([.ref (ad 0), .long p1])).length) Slot.unset).toArray = ls at hl ⊢
  have hl : lv_has ls 3 [(0, .ref (ad 0)), (1, .long p1)] := hl
  refine lv_aload_n hx hb dX1_collect_0 rfl (lv_at hl 0 rfl) ?_
  refine va_get (D := D) (ci := 1) (v := .int y1) (C := RX1) (T := TX1) (N := 13) hx hb hts (fun _ h => List.mem_cons_of_mem _ (List.mem_append_right _ h)) hown hK hP 0 rfl rfl 1 (by decide) (hts (.fieldLink RX1 33 "PostDesk2Model" "many" "I") (by decide +kernel)) (fun _ h9 => h9) rfl dX1_collect_1 ?_
  refine lv_bipush (v := 40) hx hb dX1_collect_4 (by decide) ?_
  refine lv_icmp_ne (tgt := 12) hx hb dX1_collect_6 (by decide) (fun c_6 => ?_) (fun c_6 => ?_)
  · refine lv_aload_n hx hb dX1_collect_12 rfl (lv_at hl 0 rfl) ?_
    refine va_get (D := D) (ci := 1) (v := .ref (ad 1)) (C := RX1) (T := TX1) (N := 13) hx hb hts (fun _ h => List.mem_cons_of_mem _ (List.mem_append_right _ h)) hown hK hP 0 rfl rfl 0 (by decide) (hts (.fieldLink RX1 7 "PostDesk2Model" "collected" "[J") (by decide +kernel)) (fun _ h9 => h9) rfl dX1_collect_13 ?_
    refine lv_aload_n hx hb dX1_collect_16 rfl (lv_at hl 0 rfl) ?_
    refine va_get (D := D) (ci := 1) (v := .int y1) (C := RX1) (T := TX1) (N := 13) hx hb hts (fun _ h => List.mem_cons_of_mem _ (List.mem_append_right _ h)) hown hK hP 0 rfl rfl 1 (by decide) (hts (.fieldLink RX1 33 "PostDesk2Model" "many" "I") (by decide +kernel)) (fun _ h9 => h9) rfl dX1_collect_17 ?_
    refine lv_lload_n hx hb dX1_collect_20 rfl (lv_at hl 1 rfl) ?_
    refine va_last hx hb hK hP hD hS 1 0 rfl rfl (ymn_in h2 c_6) dX1_collect_21 (fun H locs hP hD hS => ?_)
    have hP : va_P D vwCl (yw ad cd ((vp_updL y0 (y1).toNatClampNeg p1), y1, y2, y3, y4, y5, y6, y7, y8, y9, y10, y11, y12)) H := hP
    have hD : va_D A (yw ad cd ((vp_updL y0 (y1).toNatClampNeg p1), y1, y2, y3, y4, y5, y6, y7, y8, y9, y10, y11, y12)) := hD
    refine lv_aload_n hx hb dX1_collect_22 rfl (lv_at hl 0 rfl) ?_
    refine lv_dup hx hb dX1_collect_23 rfl ?_
    refine va_get (D := D) (ci := 1) (v := .int y1) (C := RX1) (T := TX1) (N := 13) hx hb hts (fun _ h => List.mem_cons_of_mem _ (List.mem_append_right _ h)) hown hK hP 0 rfl rfl 1 (by decide) (hts (.fieldLink RX1 33 "PostDesk2Model" "many" "I") (by decide +kernel)) (fun _ h9 => h9) rfl dX1_collect_24 ?_
    refine lv_iconst (v := 1) hx hb dX1_collect_27 (by decide) ?_
    refine lv_iadd hx hb dX1_collect_28 ?_
    refine va_put (D := D) (ci := 1) (v := .int (y1 + 1)) (ty := .int) (C := RX1) (T := TX1) (N := 13) hx hb hts (fun _ h => List.mem_cons_of_mem _ (List.mem_append_right _ h)) tyX1 tyX1_ok nmX1 hown hK hP hD hS 0 rfl rfl 1 (by decide) (hts (.fieldLink RX1 33 "PostDesk2Model" "many" "I") (by decide +kernel)) (fun _ h9 => h9) rfl (by decide +kernel) rfl rfl (Nat.le_of_ble_eq_true rfl) dX1_collect_29 (fun H locs hP hD hS => ?_)
    have hP : va_P D vwCl (yw ad cd ((vp_updL y0 (y1).toNatClampNeg p1), (y1 + 1), y2, y3, y4, y5, y6, y7, y8, y9, y10, y11, y12)) H := hP
    have hD : va_D A (yw ad cd ((vp_updL y0 (y1).toNatClampNeg p1), (y1 + 1), y2, y3, y4, y5, y6, y7, y8, y9, y10, y11, y12)) := hD
    refine lv_aload_n hx hb dX1_collect_32 rfl (lv_at hl 0 rfl) ?_
    refine va_get (D := D) (ci := 1) (v := .int (y1 + 1)) (C := RX1) (T := TX1) (N := 13) hx hb hts (fun _ h => List.mem_cons_of_mem _ (List.mem_append_right _ h)) hown hK hP 0 rfl rfl 1 (by decide) (hts (.fieldLink RX1 33 "PostDesk2Model" "many" "I") (by decide +kernel)) (fun _ h9 => h9) rfl dX1_collect_33 ?_
    exact W.iret (v := (y1 + 1)) hx hb hr (fun t ht hW => ⟨⟨(y1 + 1), ((vp_updL y0 (y1).toNatClampNeg p1), (y1 + 1), y2, y3, y4, y5, y6, y7, y8, y9, y10, y11, y12), rfl, (by simp only [yf_collect, if_neg c_6]), by rw [ht]; exact hP, va_K.moved hW.alike hK, hD⟩, hS.F ht⟩) hS.2.2 dX1_collect_36
  · refine lv_bipush (v := (-14)) hx hb dX1_collect_9 (by decide) ?_
    exact W.iret (v := (-14)) hx hb hr (fun t ht hW => ⟨⟨(-14), (y0, y1, y2, y3, y4, y5, y6, y7, y8, y9, y10, y11, y12), rfl, (by simp only [yf_collect, if_pos c_6]), by rw [ht]; exact hP, va_K.moved hW.alike hK, hD⟩, hS.F ht⟩) hS.2.2 dX1_collect_11
def yf_answer (u : YS) (p1 : Int32) (p2 : Int64) : Int32 × YS := match u with
  | (y0, y1, y2, y3, y4, y5, y6, y7, y8, y9, y10, y11, y12) => if p1 < 0 then (((-1), (y0, y1, y2, y3, y4, y5, y6, y7, y8, y9, y10, y11, y12))) else (if p1 ≤ 19 then ((1, (y0, y1, (vp_updL y2 (p1).toNatClampNeg p2), (upd y3 (p1).toNatClampNeg 0), y4, y5, y6, y7, y8, y9, y10, y11, y12))) else (((-1), (y0, y1, y2, y3, y4, y5, y6, y7, y8, y9, y10, y11, y12))))
set_option maxHeartbeats 4000000 in
set_option maxRecDepth 100000 in
theorem yk_answer (l : Launch) (D : va_G) (ad : Nat → Nat) (cd : Nat → ClassId) (u : YS) (sz : Nat) (p1 : Int32) (p2 : Int64)  : Met l yX1_answer wsX1_answer ({ frames := 0, cells := 0, slots := 0, locals := 0 }) (yPc D ad cd u sz [.int p1, .long p2]) (va_Qi (fun r u2 => (r, u2) = yf_answer u p1 p2) (yat D ad cd (va_A (yw ad cd u) sz)) (va_A (yw ad cd u) sz)) 0 0 (va_A (yw ad cd u) sz) := by
  obtain ⟨y0, y1, y2, y3, y4, y5, y6, y7, y8, y9, y10, y11, y12⟩ := u
  refine Met.ofW (cc := cX1_answer) (maxL := 4) (ret := (some .int)) (by decide) rfl ?_
  intro p e s m args below meth c s₁ B hml hv
  obtain ⟨rfl, hsz, hP, hK, hD0⟩ := hv
  have hx := B.exec
  have hb := B.bytes
  have hr := B.returns
  have hts := atoms_spec (ws := wsX1_answer) B.pre
  have hown : s.vm.findClass RX1 = some m.cls := findClass_of_methodNamed B.named
  have hlocks := B.notSynchronized
  subst hsz
  have hD := hD0.self (sz := s.heap.size)
  generalize hAe : va_A (yw ad cd (y0, y1, y2, y3, y4, y5, y6, y7, y8, y9, y10, y11, y12)) s.heap.size = A at hD ⊢
  have hA : ∀ q : Nat, s.heap.size ≤ q → A q := fun q h => by rw [← hAe]; exact Or.inr h
  have hS : va_S A s.heap s.heap [] := va_S.rf
  have hP : va_P D vwCl (yw ad cd (y0, y1, y2, y3, y4, y5, y6, y7, y8, y9, y10, y11, y12)) s.heap := hP
  have hl := lv_entry ([.ref (ad 0), .int p1, .long p2]) (n := 4) (Nat.le_of_ble_eq_true rfl)
  rw [lg_entry_eq]
  generalize (lg_sl ([.ref (ad 0), .int p1, .long p2]) ++ List.replicate (4 - (lg_sl ([.ref (ad 0), .int p1, .long p2])).length) Slot.unset).toArray = ls at hl ⊢
  have hl : lv_has ls 4 [(0, .ref (ad 0)), (1, .int p1), (2, .long p2)] := hl
  refine lv_iload_n hx hb dX1_answer_0 rfl (lv_at hl 1 rfl) ?_
  refine lv_if_lt (tgt := 10) hx hb dX1_answer_1 (by decide) (fun c_1 => ?_) (fun c_1 => ?_)
  · refine lv_iconst (v := (-1)) hx hb dX1_answer_10 (by decide) ?_
    exact W.iret (v := (-1)) hx hb hr (fun t ht hW => ⟨⟨(-1), (y0, y1, y2, y3, y4, y5, y6, y7, y8, y9, y10, y11, y12), rfl, (by simp only [yf_answer, if_pos c_1]), by rw [ht]; exact hP, va_K.moved hW.alike hK, hD⟩, hS.F ht⟩) hS.2.2 dX1_answer_11
  · refine lv_iload_n hx hb dX1_answer_4 rfl (lv_at hl 1 rfl) ?_
    refine lv_bipush (v := 19) hx hb dX1_answer_5 (by decide) ?_
    refine lv_icmp_le (tgt := 12) hx hb dX1_answer_7 (by decide) (fun c_7 => ?_) (fun c_7 => ?_)
    · refine lv_aload_n hx hb dX1_answer_12 rfl (lv_at hl 0 rfl) ?_
      refine va_get (D := D) (ci := 1) (v := .ref (ad 2)) (C := RX1) (T := TX1) (N := 13) hx hb hts (fun _ h => List.mem_cons_of_mem _ (List.mem_append_right _ h)) hown hK hP 0 rfl rfl 2 (by decide) (hts (.fieldLink RX1 13 "PostDesk2Model" "value" "[J") (by decide +kernel)) (fun _ h9 => h9) rfl dX1_answer_13 ?_
      refine lv_iload_n hx hb dX1_answer_16 rfl (lv_at hl 1 rfl) ?_
      refine lv_lload_n hx hb dX1_answer_17 rfl (lv_at hl 2 rfl) ?_
      refine va_last hx hb hK hP hD hS 2 1 rfl rfl (yc_in c_1 c_7) dX1_answer_18 (fun H locs hP hD hS => ?_)
      have hP : va_P D vwCl (yw ad cd (y0, y1, (vp_updL y2 (p1).toNatClampNeg p2), y3, y4, y5, y6, y7, y8, y9, y10, y11, y12)) H := hP
      have hD : va_D A (yw ad cd (y0, y1, (vp_updL y2 (p1).toNatClampNeg p2), y3, y4, y5, y6, y7, y8, y9, y10, y11, y12)) := hD
      refine lv_aload_n hx hb dX1_answer_19 rfl (lv_at hl 0 rfl) ?_
      refine va_get (D := D) (ci := 1) (v := .ref (ad 3)) (C := RX1) (T := TX1) (N := 13) hx hb hts (fun _ h => List.mem_cons_of_mem _ (List.mem_append_right _ h)) hown hK hP 0 rfl rfl 3 (by decide) (hts (.fieldLink RX1 16 "PostDesk2Model" "failure" "[I") (by decide +kernel)) (fun _ h9 => h9) rfl dX1_answer_20 ?_
      refine lv_iload_n hx hb dX1_answer_23 rfl (lv_at hl 1 rfl) ?_
      refine lv_iconst (v := 0) hx hb dX1_answer_24 (by decide) ?_
      refine va_iast hx hb hK hP hD hS 3 2 rfl rfl (yc_in c_1 c_7) dX1_answer_25 (fun H locs hP hD hS => ?_)
      have hP : va_P D vwCl (yw ad cd (y0, y1, (vp_updL y2 (p1).toNatClampNeg p2), (upd y3 (p1).toNatClampNeg 0), y4, y5, y6, y7, y8, y9, y10, y11, y12)) H := hP
      have hD : va_D A (yw ad cd (y0, y1, (vp_updL y2 (p1).toNatClampNeg p2), (upd y3 (p1).toNatClampNeg 0), y4, y5, y6, y7, y8, y9, y10, y11, y12)) := hD
      refine lv_iconst (v := 1) hx hb dX1_answer_26 (by decide) ?_
      exact W.iret (v := 1) hx hb hr (fun t ht hW => ⟨⟨1, (y0, y1, (vp_updL y2 (p1).toNatClampNeg p2), (upd y3 (p1).toNatClampNeg 0), y4, y5, y6, y7, y8, y9, y10, y11, y12), rfl, (by simp only [yf_answer, if_neg c_1, if_pos c_7]), by rw [ht]; exact hP, va_K.moved hW.alike hK, hD⟩, hS.F ht⟩) hS.2.2 dX1_answer_27
    · refine lv_iconst (v := (-1)) hx hb dX1_answer_10 (by decide) ?_
      exact W.iret (v := (-1)) hx hb hr (fun t ht hW => ⟨⟨(-1), (y0, y1, y2, y3, y4, y5, y6, y7, y8, y9, y10, y11, y12), rfl, (by simp only [yf_answer, if_neg c_1, if_neg c_7]), by rw [ht]; exact hP, va_K.moved hW.alike hK, hD⟩, hS.F ht⟩) hS.2.2 dX1_answer_11
def yf_fails (u : YS) (p1 : Int32) (p2 : Int32) : Int32 × YS := match u with
  | (y0, y1, y2, y3, y4, y5, y6, y7, y8, y9, y10, y11, y12) => if p1 < 0 then (((-1), (y0, y1, y2, y3, y4, y5, y6, y7, y8, y9, y10, y11, y12))) else (if 19 < p1 then (((-1), (y0, y1, y2, y3, y4, y5, y6, y7, y8, y9, y10, y11, y12))) else (if p2 < 0 then (((-1), (y0, y1, y2, y3, y4, y5, y6, y7, y8, y9, y10, y11, y12))) else (if p2 ≤ 3 then ((1, (y0, y1, y2, (upd y3 (p1).toNatClampNeg p2), y4, y5, y6, y7, y8, y9, y10, y11, y12))) else (((-1), (y0, y1, y2, y3, y4, y5, y6, y7, y8, y9, y10, y11, y12))))))
set_option maxHeartbeats 4000000 in
set_option maxRecDepth 100000 in
theorem yk_fails (l : Launch) (D : va_G) (ad : Nat → Nat) (cd : Nat → ClassId) (u : YS) (sz : Nat) (p1 : Int32) (p2 : Int32)  : Met l yX1_fails wsX1_fails ({ frames := 0, cells := 0, slots := 0, locals := 0 }) (yPc D ad cd u sz [.int p1, .int p2]) (va_Qi (fun r u2 => (r, u2) = yf_fails u p1 p2) (yat D ad cd (va_A (yw ad cd u) sz)) (va_A (yw ad cd u) sz)) 0 0 (va_A (yw ad cd u) sz) := by
  obtain ⟨y0, y1, y2, y3, y4, y5, y6, y7, y8, y9, y10, y11, y12⟩ := u
  refine Met.ofW (cc := cX1_fails) (maxL := 3) (ret := (some .int)) (by decide) rfl ?_
  intro p e s m args below meth c s₁ B hml hv
  obtain ⟨rfl, hsz, hP, hK, hD0⟩ := hv
  have hx := B.exec
  have hb := B.bytes
  have hr := B.returns
  have hts := atoms_spec (ws := wsX1_fails) B.pre
  have hown : s.vm.findClass RX1 = some m.cls := findClass_of_methodNamed B.named
  have hlocks := B.notSynchronized
  subst hsz
  have hD := hD0.self (sz := s.heap.size)
  generalize hAe : va_A (yw ad cd (y0, y1, y2, y3, y4, y5, y6, y7, y8, y9, y10, y11, y12)) s.heap.size = A at hD ⊢
  have hA : ∀ q : Nat, s.heap.size ≤ q → A q := fun q h => by rw [← hAe]; exact Or.inr h
  have hS : va_S A s.heap s.heap [] := va_S.rf
  have hP : va_P D vwCl (yw ad cd (y0, y1, y2, y3, y4, y5, y6, y7, y8, y9, y10, y11, y12)) s.heap := hP
  have hl := lv_entry ([.ref (ad 0), .int p1, .int p2]) (n := 3) (Nat.le_of_ble_eq_true rfl)
  rw [lg_entry_eq]
  generalize (lg_sl ([.ref (ad 0), .int p1, .int p2]) ++ List.replicate (3 - (lg_sl ([.ref (ad 0), .int p1, .int p2])).length) Slot.unset).toArray = ls at hl ⊢
  have hl : lv_has ls 3 [(0, .ref (ad 0)), (1, .int p1), (2, .int p2)] := hl
  refine lv_iload_n hx hb dX1_fails_0 rfl (lv_at hl 1 rfl) ?_
  refine lv_if_lt (tgt := 19) hx hb dX1_fails_1 (by decide) (fun c_1 => ?_) (fun c_1 => ?_)
  · refine lv_iconst (v := (-1)) hx hb dX1_fails_19 (by decide) ?_
    exact W.iret (v := (-1)) hx hb hr (fun t ht hW => ⟨⟨(-1), (y0, y1, y2, y3, y4, y5, y6, y7, y8, y9, y10, y11, y12), rfl, (by simp only [yf_fails, if_pos c_1]), by rw [ht]; exact hP, va_K.moved hW.alike hK, hD⟩, hS.F ht⟩) hS.2.2 dX1_fails_20
  · refine lv_iload_n hx hb dX1_fails_4 rfl (lv_at hl 1 rfl) ?_
    refine lv_bipush (v := 19) hx hb dX1_fails_5 (by decide) ?_
    refine lv_icmp_gt (tgt := 19) hx hb dX1_fails_7 (by decide) (fun c_7 => ?_) (fun c_7 => ?_)
    · refine lv_iconst (v := (-1)) hx hb dX1_fails_19 (by decide) ?_
      exact W.iret (v := (-1)) hx hb hr (fun t ht hW => ⟨⟨(-1), (y0, y1, y2, y3, y4, y5, y6, y7, y8, y9, y10, y11, y12), rfl, (by simp only [yf_fails, if_neg c_1, if_pos c_7]), by rw [ht]; exact hP, va_K.moved hW.alike hK, hD⟩, hS.F ht⟩) hS.2.2 dX1_fails_20
    · refine lv_iload_n hx hb dX1_fails_10 rfl (lv_at hl 2 rfl) ?_
      refine lv_if_lt (tgt := 19) hx hb dX1_fails_11 (by decide) (fun c_11 => ?_) (fun c_11 => ?_)
      · refine lv_iconst (v := (-1)) hx hb dX1_fails_19 (by decide) ?_
        exact W.iret (v := (-1)) hx hb hr (fun t ht hW => ⟨⟨(-1), (y0, y1, y2, y3, y4, y5, y6, y7, y8, y9, y10, y11, y12), rfl, (by simp only [yf_fails, if_neg c_1, if_neg c_7, if_pos c_11]), by rw [ht]; exact hP, va_K.moved hW.alike hK, hD⟩, hS.F ht⟩) hS.2.2 dX1_fails_20
      · refine lv_iload_n hx hb dX1_fails_14 rfl (lv_at hl 2 rfl) ?_
        refine lv_iconst (v := 3) hx hb dX1_fails_15 (by decide) ?_
        refine lv_icmp_le (tgt := 21) hx hb dX1_fails_16 (by decide) (fun c_16 => ?_) (fun c_16 => ?_)
        · refine lv_aload_n hx hb dX1_fails_21 rfl (lv_at hl 0 rfl) ?_
          refine va_get (D := D) (ci := 1) (v := .ref (ad 3)) (C := RX1) (T := TX1) (N := 13) hx hb hts (fun _ h => List.mem_cons_of_mem _ (List.mem_append_right _ h)) hown hK hP 0 rfl rfl 3 (by decide) (hts (.fieldLink RX1 16 "PostDesk2Model" "failure" "[I") (by decide +kernel)) (fun _ h9 => h9) rfl dX1_fails_22 ?_
          refine lv_iload_n hx hb dX1_fails_25 rfl (lv_at hl 1 rfl) ?_
          refine lv_iload_n hx hb dX1_fails_26 rfl (lv_at hl 2 rfl) ?_
          refine va_iast hx hb hK hP hD hS 3 2 rfl rfl (yc_in' c_1 c_7) dX1_fails_27 (fun H locs hP hD hS => ?_)
          have hP : va_P D vwCl (yw ad cd (y0, y1, y2, (upd y3 (p1).toNatClampNeg p2), y4, y5, y6, y7, y8, y9, y10, y11, y12)) H := hP
          have hD : va_D A (yw ad cd (y0, y1, y2, (upd y3 (p1).toNatClampNeg p2), y4, y5, y6, y7, y8, y9, y10, y11, y12)) := hD
          refine lv_iconst (v := 1) hx hb dX1_fails_28 (by decide) ?_
          exact W.iret (v := 1) hx hb hr (fun t ht hW => ⟨⟨1, (y0, y1, y2, (upd y3 (p1).toNatClampNeg p2), y4, y5, y6, y7, y8, y9, y10, y11, y12), rfl, (by simp only [yf_fails, if_neg c_1, if_neg c_7, if_neg c_11, if_pos c_16]), by rw [ht]; exact hP, va_K.moved hW.alike hK, hD⟩, hS.F ht⟩) hS.2.2 dX1_fails_29
        · refine lv_iconst (v := (-1)) hx hb dX1_fails_19 (by decide) ?_
          exact W.iret (v := (-1)) hx hb hr (fun t ht hW => ⟨⟨(-1), (y0, y1, y2, y3, y4, y5, y6, y7, y8, y9, y10, y11, y12), rfl, (by simp only [yf_fails, if_neg c_1, if_neg c_7, if_neg c_11, if_neg c_16]), by rw [ht]; exact hP, va_K.moved hW.alike hK, hD⟩, hS.F ht⟩) hS.2.2 dX1_fails_20
def yf_make (u : YS) (p1 : Int32) : Int32 × YS := match u with
  | (y0, y1, y2, y3, y4, y5, y6, y7, y8, y9, y10, y11, y12) => if p1 < 0 then (((-1), (y0, y1, y2, y3, y4, y5, y6, y7, y8, y9, y10, y11, y12))) else (if p1 ≤ 9 then (if (y4 (p1).toNatClampNeg) = 99 then (((-14), (y0, y1, y2, y3, y4, y5, y6, y7, y8, y9, y10, y11, y12))) else ((((1000 * p1) + ((upd y4 (p1).toNatClampNeg ((y4 (p1).toNatClampNeg) + 1)) (p1).toNatClampNeg)), (y0, y1, y2, y3, (upd y4 (p1).toNatClampNeg ((y4 (p1).toNatClampNeg) + 1)), (upd y5 (((100 * p1) + ((upd y4 (p1).toNatClampNeg ((y4 (p1).toNatClampNeg) + 1)) (p1).toNatClampNeg))).toNatClampNeg (vp_nar .boolean 1)), y6, y7, y8, y9, y10, y11, y12)))) else (((-1), (y0, y1, y2, y3, y4, y5, y6, y7, y8, y9, y10, y11, y12))))
set_option maxHeartbeats 4000000 in
set_option maxRecDepth 100000 in
theorem yk_make (l : Launch) (D : va_G) (ad : Nat → Nat) (cd : Nat → ClassId) (u : YS) (sz : Nat) (p1 : Int32) (h1 : ∀ j, j < 10 → 0 ≤ u.2.2.2.2.1 j ∧ u.2.2.2.2.1 j ≤ 99) : Met l yX1_make wsX1_make ({ frames := 0, cells := 0, slots := 0, locals := 0 }) (yPc D ad cd u sz [.int p1]) (va_Qi (fun r u2 => (r, u2) = yf_make u p1) (yat D ad cd (va_A (yw ad cd u) sz)) (va_A (yw ad cd u) sz)) 0 0 (va_A (yw ad cd u) sz) := by
  obtain ⟨y0, y1, y2, y3, y4, y5, y6, y7, y8, y9, y10, y11, y12⟩ := u
  refine Met.ofW (cc := cX1_make) (maxL := 2) (ret := (some .int)) (by decide) rfl ?_
  intro p e s m args below meth c s₁ B hml hv
  obtain ⟨rfl, hsz, hP, hK, hD0⟩ := hv
  have hx := B.exec
  have hb := B.bytes
  have hr := B.returns
  have hts := atoms_spec (ws := wsX1_make) B.pre
  have hown : s.vm.findClass RX1 = some m.cls := findClass_of_methodNamed B.named
  have hlocks := B.notSynchronized
  subst hsz
  have hD := hD0.self (sz := s.heap.size)
  generalize hAe : va_A (yw ad cd (y0, y1, y2, y3, y4, y5, y6, y7, y8, y9, y10, y11, y12)) s.heap.size = A at hD ⊢
  have hA : ∀ q : Nat, s.heap.size ≤ q → A q := fun q h => by rw [← hAe]; exact Or.inr h
  have hS : va_S A s.heap s.heap [] := va_S.rf
  have hP : va_P D vwCl (yw ad cd (y0, y1, y2, y3, y4, y5, y6, y7, y8, y9, y10, y11, y12)) s.heap := hP
  have hl := lv_entry ([.ref (ad 0), .int p1]) (n := 2) (Nat.le_of_ble_eq_true rfl)
  rw [lg_entry_eq]
  generalize (lg_sl ([.ref (ad 0), .int p1]) ++ List.replicate (2 - (lg_sl ([.ref (ad 0), .int p1])).length) Slot.unset).toArray = ls at hl ⊢
  have hl : lv_has ls 2 [(0, .ref (ad 0)), (1, .int p1)] := hl
  refine lv_iload_n hx hb dX1_make_0 rfl (lv_at hl 1 rfl) ?_
  refine lv_if_lt (tgt := 10) hx hb dX1_make_1 (by decide) (fun c_1 => ?_) (fun c_1 => ?_)
  · refine lv_iconst (v := (-1)) hx hb dX1_make_10 (by decide) ?_
    exact W.iret (v := (-1)) hx hb hr (fun t ht hW => ⟨⟨(-1), (y0, y1, y2, y3, y4, y5, y6, y7, y8, y9, y10, y11, y12), rfl, (by simp only [yf_make, if_pos c_1]), by rw [ht]; exact hP, va_K.moved hW.alike hK, hD⟩, hS.F ht⟩) hS.2.2 dX1_make_11
  · refine lv_iload_n hx hb dX1_make_4 rfl (lv_at hl 1 rfl) ?_
    refine lv_bipush (v := 9) hx hb dX1_make_5 (by decide) ?_
    refine lv_icmp_le (tgt := 12) hx hb dX1_make_7 (by decide) (fun c_7 => ?_) (fun c_7 => ?_)
    · refine lv_aload_n hx hb dX1_make_12 rfl (lv_at hl 0 rfl) ?_
      refine va_get (D := D) (ci := 1) (v := .ref (ad 4)) (C := RX1) (T := TX1) (N := 13) hx hb hts (fun _ h => List.mem_cons_of_mem _ (List.mem_append_right _ h)) hown hK hP 0 rfl rfl 4 (by decide) (hts (.fieldLink RX1 20 "PostDesk2Model" "made" "[I") (by decide +kernel)) (fun _ h9 => h9) rfl dX1_make_13 ?_
      refine lv_iload_n hx hb dX1_make_16 rfl (lv_at hl 1 rfl) ?_
      refine va_iald hx hb hK hP 4 3 rfl rfl (yk_in c_1 c_7) dX1_make_17 ?_
      refine lv_bipush (v := 99) hx hb dX1_make_18 (by decide) ?_
      refine lv_icmp_ne (tgt := 26) hx hb dX1_make_20 (by decide) (fun c_20 => ?_) (fun c_20 => ?_)
      · refine lv_aload_n hx hb dX1_make_26 rfl (lv_at hl 0 rfl) ?_
        refine va_get (D := D) (ci := 1) (v := .ref (ad 4)) (C := RX1) (T := TX1) (N := 13) hx hb hts (fun _ h => List.mem_cons_of_mem _ (List.mem_append_right _ h)) hown hK hP 0 rfl rfl 4 (by decide) (hts (.fieldLink RX1 20 "PostDesk2Model" "made" "[I") (by decide +kernel)) (fun _ h9 => h9) rfl dX1_make_27 ?_
        refine lv_iload_n hx hb dX1_make_30 rfl (lv_at hl 1 rfl) ?_
        refine lv_dup2_11 hx hb dX1_make_31 rfl rfl ?_
        refine va_iald hx hb hK hP 4 3 rfl rfl (yk_in c_1 c_7) dX1_make_32 ?_
        refine lv_iconst (v := 1) hx hb dX1_make_33 (by decide) ?_
        refine lv_iadd hx hb dX1_make_34 ?_
        refine va_iast hx hb hK hP hD hS 4 3 rfl rfl (yk_in c_1 c_7) dX1_make_35 (fun H locs hP hD hS => ?_)
        have hP : va_P D vwCl (yw ad cd (y0, y1, y2, y3, (upd y4 (p1).toNatClampNeg ((y4 (p1).toNatClampNeg) + 1)), y5, y6, y7, y8, y9, y10, y11, y12)) H := hP
        have hD : va_D A (yw ad cd (y0, y1, y2, y3, (upd y4 (p1).toNatClampNeg ((y4 (p1).toNatClampNeg) + 1)), y5, y6, y7, y8, y9, y10, y11, y12)) := hD
        refine lv_aload_n hx hb dX1_make_36 rfl (lv_at hl 0 rfl) ?_
        refine va_get (D := D) (ci := 1) (v := .ref (ad 5)) (C := RX1) (T := TX1) (N := 13) hx hb hts (fun _ h => List.mem_cons_of_mem _ (List.mem_append_right _ h)) hown hK hP 0 rfl rfl 5 (by decide) (hts (.fieldLink RX1 23 "PostDesk2Model" "there" "[Z") (by decide +kernel)) (fun _ h9 => h9) rfl dX1_make_37 ?_
        refine lv_bipush (v := 100) hx hb dX1_make_40 (by decide) ?_
        refine lv_iload_n hx hb dX1_make_42 rfl (lv_at hl 1 rfl) ?_
        refine lv_imul hx hb dX1_make_43 ?_
        refine lv_aload_n hx hb dX1_make_44 rfl (lv_at hl 0 rfl) ?_
        refine va_get (D := D) (ci := 1) (v := .ref (ad 4)) (C := RX1) (T := TX1) (N := 13) hx hb hts (fun _ h => List.mem_cons_of_mem _ (List.mem_append_right _ h)) hown hK hP 0 rfl rfl 4 (by decide) (hts (.fieldLink RX1 20 "PostDesk2Model" "made" "[I") (by decide +kernel)) (fun _ h9 => h9) rfl dX1_make_45 ?_
        refine lv_iload_n hx hb dX1_make_48 rfl (lv_at hl 1 rfl) ?_
        refine va_iald hx hb hK hP 4 3 rfl rfl (yk_in c_1 c_7) dX1_make_49 ?_
        refine lv_iadd hx hb dX1_make_50 ?_
        refine lv_iconst (v := 1) hx hb dX1_make_51 (by decide) ?_
        refine va_zast hx hb hK hP hD hS 5 4 rfl rfl (ymk_in (yk_in c_1 c_7) (h1 _ (yk_lt c_1 c_7)) c_20) dX1_make_52 (fun H locs hP hD hS => ?_)
        have hP : va_P D vwCl (yw ad cd (y0, y1, y2, y3, (upd y4 (p1).toNatClampNeg ((y4 (p1).toNatClampNeg) + 1)), (upd y5 (((100 * p1) + ((upd y4 (p1).toNatClampNeg ((y4 (p1).toNatClampNeg) + 1)) (p1).toNatClampNeg))).toNatClampNeg (vp_nar .boolean 1)), y6, y7, y8, y9, y10, y11, y12)) H := hP
        have hD : va_D A (yw ad cd (y0, y1, y2, y3, (upd y4 (p1).toNatClampNeg ((y4 (p1).toNatClampNeg) + 1)), (upd y5 (((100 * p1) + ((upd y4 (p1).toNatClampNeg ((y4 (p1).toNatClampNeg) + 1)) (p1).toNatClampNeg))).toNatClampNeg (vp_nar .boolean 1)), y6, y7, y8, y9, y10, y11, y12)) := hD
        refine lv_sipush (v := 1000) hx hb dX1_make_53 (by decide) ?_
        refine lv_iload_n hx hb dX1_make_56 rfl (lv_at hl 1 rfl) ?_
        refine lv_imul hx hb dX1_make_57 ?_
        refine lv_aload_n hx hb dX1_make_58 rfl (lv_at hl 0 rfl) ?_
        refine va_get (D := D) (ci := 1) (v := .ref (ad 4)) (C := RX1) (T := TX1) (N := 13) hx hb hts (fun _ h => List.mem_cons_of_mem _ (List.mem_append_right _ h)) hown hK hP 0 rfl rfl 4 (by decide) (hts (.fieldLink RX1 20 "PostDesk2Model" "made" "[I") (by decide +kernel)) (fun _ h9 => h9) rfl dX1_make_59 ?_
        refine lv_iload_n hx hb dX1_make_62 rfl (lv_at hl 1 rfl) ?_
        refine va_iald hx hb hK hP 4 3 rfl rfl (yk_in c_1 c_7) dX1_make_63 ?_
        refine lv_iadd hx hb dX1_make_64 ?_
        exact W.iret (v := ((1000 * p1) + ((upd y4 (p1).toNatClampNeg ((y4 (p1).toNatClampNeg) + 1)) (p1).toNatClampNeg))) hx hb hr (fun t ht hW => ⟨⟨((1000 * p1) + ((upd y4 (p1).toNatClampNeg ((y4 (p1).toNatClampNeg) + 1)) (p1).toNatClampNeg)), (y0, y1, y2, y3, (upd y4 (p1).toNatClampNeg ((y4 (p1).toNatClampNeg) + 1)), (upd y5 (((100 * p1) + ((upd y4 (p1).toNatClampNeg ((y4 (p1).toNatClampNeg) + 1)) (p1).toNatClampNeg))).toNatClampNeg (vp_nar .boolean 1)), y6, y7, y8, y9, y10, y11, y12), rfl, (by simp only [yf_make, if_neg c_1, if_pos c_7, if_neg c_20]), by rw [ht]; exact hP, va_K.moved hW.alike hK, hD⟩, hS.F ht⟩) hS.2.2 dX1_make_65
      · refine lv_bipush (v := (-14)) hx hb dX1_make_23 (by decide) ?_
        exact W.iret (v := (-14)) hx hb hr (fun t ht hW => ⟨⟨(-14), (y0, y1, y2, y3, y4, y5, y6, y7, y8, y9, y10, y11, y12), rfl, (by simp only [yf_make, if_neg c_1, if_pos c_7, if_pos c_20]), by rw [ht]; exact hP, va_K.moved hW.alike hK, hD⟩, hS.F ht⟩) hS.2.2 dX1_make_25
    · refine lv_iconst (v := (-1)) hx hb dX1_make_10 (by decide) ?_
      exact W.iret (v := (-1)) hx hb hr (fun t ht hW => ⟨⟨(-1), (y0, y1, y2, y3, y4, y5, y6, y7, y8, y9, y10, y11, y12), rfl, (by simp only [yf_make, if_neg c_1, if_neg c_7]), by rw [ht]; exact hP, va_K.moved hW.alike hK, hD⟩, hS.F ht⟩) hS.2.2 dX1_make_11
def yf_drop (u : YS) (p1 : Int32) : Int32 × YS := match u with
  | (y0, y1, y2, y3, y4, y5, y6, y7, y8, y9, y10, y11, y12) => if (yf_isThere (y0, y1, y2, y3, y4, y5, y6, y7, y8, y9, y10, y11, y12) p1) = 0 then (((yf_isThere (y0, y1, y2, y3, y4, y5, y6, y7, y8, y9, y10, y11, y12) p1), (y0, y1, y2, y3, y4, y5, y6, y7, y8, y9, y10, y11, y12))) else (((yf_isThere (y0, y1, y2, y3, y4, y5, y6, y7, y8, y9, y10, y11, y12) p1), (y0, y1, y2, y3, y4, (upd y5 (((100 * (p1 / 1000)) + (p1 - p1 / 1000 * 1000))).toNatClampNeg (vp_nar .boolean 0)), y6, y7, y8, y9, y10, y11, y12)))
set_option maxHeartbeats 4000000 in
set_option maxRecDepth 100000 in
theorem yk_drop (l : Launch) (D : va_G) (ad : Nat → Nat) (cd : Nat → ClassId) (u : YS) (sz : Nat) (p1 : Int32)  : Met l yX1_drop wsX1_drop ({ frames := 1, cells := 0, slots := 0, locals := 21 }) (yPc D ad cd u sz [.int p1]) (va_Qi (fun r u2 => (r, u2) = yf_drop u p1) (yat D ad cd (va_A (yw ad cd u) sz)) (va_A (yw ad cd u) sz)) 0 0 (va_A (yw ad cd u) sz) := by
  obtain ⟨y0, y1, y2, y3, y4, y5, y6, y7, y8, y9, y10, y11, y12⟩ := u
  refine Met.ofW (cc := cX1_drop) (maxL := 3) (ret := (some .boolean)) (by decide) rfl ?_
  intro p e s m args below meth c s₁ B hml hv
  obtain ⟨rfl, hsz, hP, hK, hD0⟩ := hv
  have hx := B.exec
  have hb := B.bytes
  have hr := B.returns
  have hts := atoms_spec (ws := wsX1_drop) B.pre
  have hown : s.vm.findClass RX1 = some m.cls := findClass_of_methodNamed B.named
  have hlocks := B.notSynchronized
  subst hsz
  have hD := hD0.self (sz := s.heap.size)
  generalize hAe : va_A (yw ad cd (y0, y1, y2, y3, y4, y5, y6, y7, y8, y9, y10, y11, y12)) s.heap.size = A at hD ⊢
  have hA : ∀ q : Nat, s.heap.size ≤ q → A q := fun q h => by rw [← hAe]; exact Or.inr h
  have hS : va_S A s.heap s.heap [] := va_S.rf
  have hP : va_P D vwCl (yw ad cd (y0, y1, y2, y3, y4, y5, y6, y7, y8, y9, y10, y11, y12)) s.heap := hP
  have hl := lv_entry ([.ref (ad 0), .int p1]) (n := 3) (Nat.le_of_ble_eq_true rfl)
  rw [lg_entry_eq]
  generalize (lg_sl ([.ref (ad 0), .int p1]) ++ List.replicate (3 - (lg_sl ([.ref (ad 0), .int p1])).length) Slot.unset).toArray = ls at hl ⊢
  have hl : lv_has ls 3 [(0, .ref (ad 0)), (1, .int p1)] := hl
  refine lv_aload_n hx hb dX1_drop_0 rfl (lv_at hl 0 rfl) ?_
  refine lv_iload_n hx hb dX1_drop_1 rfl (lv_at hl 1 rfl) ?_
  refine vp_callSi (W.runV (As := [.int p1]) (rest := []) ⟨hx, hb, hml, hown, hts⟩ (yk_isThere l D ad cd (y0, y1, y2, y3, y4, y5, y6, y7, y8, y9, y10, y11, y12) p1) (cwV 1 hts gX1_drop_X1_isThere rfl rfl rfl (by decide +kernel) ⟨Nat.le_of_ble_eq_true rfl, Nat.le_of_ble_eq_true rfl⟩) ⟨fun a U g mk q => ⟨q.1, q.2.1, va_K.moved (u := U) (U := U.calling g mk a) (Vm.Alike.refl U.vm) q.2.2⟩, va_recv hK hP (ci := 1) (q0 := 0) rfl rfl, fun U hU hW => ⟨rfl, by rw [hU]; exact hP, va_K.moved hW.alike hK⟩⟩ rfl rfl hl.1 rfl (lv_room (Nat.le_of_ble_eq_true rfl)) dX1_drop_2 ⟨Nat.zero_le _, Nat.zero_le _⟩) (fun r_2 hr_2 => ?_)
  subst hr_2
  refine lv_istore_n (lv' := [(2, .int (yf_isThere (y0, y1, y2, y3, y4, y5, y6, y7, y8, y9, y10, y11, y12) p1)), (0, .ref (ad 0)), (1, .int p1)]) hx hb dX1_drop_5 rfl hl (by decide) rfl (fun ls hl => ?_)
  refine lv_iload_n hx hb dX1_drop_6 rfl (lv_at hl 0 rfl) ?_
  refine lv_if_eq (tgt := 30) hx hb dX1_drop_7 (by decide) (fun c_7 => ?_) (fun c_7 => ?_)
  · refine lv_iload_n hx hb dX1_drop_30 rfl (lv_at hl 0 rfl) ?_
    exact W.zret (v := (yf_isThere (y0, y1, y2, y3, y4, y5, y6, y7, y8, y9, y10, y11, y12) p1)) (ty := .boolean) hx hb hr (yth_nar _ _) (fun t ht hW => ⟨⟨(yf_isThere (y0, y1, y2, y3, y4, y5, y6, y7, y8, y9, y10, y11, y12) p1), (y0, y1, y2, y3, y4, y5, y6, y7, y8, y9, y10, y11, y12), rfl, (by simp only [yf_drop, if_pos c_7]), by rw [ht]; exact hP, va_K.moved hW.alike hK, hD⟩, hS.F ht⟩) hS.2.2 dX1_drop_31
  · refine lv_aload_n hx hb dX1_drop_10 rfl (lv_at hl 1 rfl) ?_
    refine va_get (D := D) (ci := 1) (v := .ref (ad 5)) (C := RX1) (T := TX1) (N := 13) hx hb hts (fun _ h => List.mem_cons_of_mem _ (List.mem_append_right _ h)) hown hK hP 0 rfl rfl 5 (by decide) (hts (.fieldLink RX1 23 "PostDesk2Model" "there" "[Z") (by decide +kernel)) (fun _ h9 => h9) rfl dX1_drop_11 ?_
    refine lv_bipush (v := 100) hx hb dX1_drop_14 (by decide) ?_
    refine lv_iload_n hx hb dX1_drop_16 rfl (lv_at hl 2 rfl) ?_
    refine lv_sipush (v := 1000) hx hb dX1_drop_17 (by decide) ?_
    refine lv_idiv hx hb dX1_drop_20 (by decide) ?_
    refine lv_imul hx hb dX1_drop_21 ?_
    refine lv_iload_n hx hb dX1_drop_22 rfl (lv_at hl 2 rfl) ?_
    refine lv_sipush (v := 1000) hx hb dX1_drop_23 (by decide) ?_
    refine lv_irem hx hb dX1_drop_26 (by decide) ?_
    refine lv_iadd hx hb dX1_drop_27 ?_
    refine lv_iconst (v := 0) hx hb dX1_drop_28 (by decide) ?_
    refine va_zast hx hb hK hP hD hS 5 4 rfl rfl (yth_in c_7) dX1_drop_29 (fun H locs hP hD hS => ?_)
    have hP : va_P D vwCl (yw ad cd (y0, y1, y2, y3, y4, (upd y5 (((100 * (p1 / 1000)) + (p1 - p1 / 1000 * 1000))).toNatClampNeg (vp_nar .boolean 0)), y6, y7, y8, y9, y10, y11, y12)) H := hP
    have hD : va_D A (yw ad cd (y0, y1, y2, y3, y4, (upd y5 (((100 * (p1 / 1000)) + (p1 - p1 / 1000 * 1000))).toNatClampNeg (vp_nar .boolean 0)), y6, y7, y8, y9, y10, y11, y12)) := hD
    refine lv_iload_n hx hb dX1_drop_30 rfl (lv_at hl 0 rfl) ?_
    exact W.zret (v := (yf_isThere (y0, y1, y2, y3, y4, y5, y6, y7, y8, y9, y10, y11, y12) p1)) (ty := .boolean) hx hb hr (yth_nar _ _) (fun t ht hW => ⟨⟨(yf_isThere (y0, y1, y2, y3, y4, y5, y6, y7, y8, y9, y10, y11, y12) p1), (y0, y1, y2, y3, y4, (upd y5 (((100 * (p1 / 1000)) + (p1 - p1 / 1000 * 1000))).toNatClampNeg (vp_nar .boolean 0)), y6, y7, y8, y9, y10, y11, y12), rfl, (by simp only [yf_drop, if_neg c_7]), by rw [ht]; exact hP, va_K.moved hW.alike hK, hD⟩, hS.F ht⟩) hS.2.2 dX1_drop_31
def yf_call (u : YS) (p1 : Int32) (p2 : Int32) (p3 : Int64) : Int64 × YS := match u with
  | (y0, y1, y2, y3, y4, y5, y6, y7, y8, y9, y10, y11, y12) => if (yf_way (y0, y1, y2, y3, y4, y5, y6, y7, y8, y9, y10, y11, y12) p1 p2) = 0 then (((yf_told (y0, y1, y2, y3, y4, y5, y6, y7, y8, y9, y10, y11, y12) (yf_way (y0, y1, y2, y3, y4, y5, y6, y7, y8, y9, y10, y11, y12) p1 p2) p1 p3), (y0, 0, y2, y3, y4, y5, (y6 + 1), y7, y8, y9, y10, y11, (yf_logBehind (y0, y1, y2, y3, y4, y5, y6, y7, y8, y9, y10, y11, y12) (yf_way (y0, y1, y2, y3, y4, y5, y6, y7, y8, y9, y10, y11, y12) p1 p2) p1 p2 (yf_told (y0, y1, y2, y3, y4, y5, y6, y7, y8, y9, y10, y11, y12) (yf_way (y0, y1, y2, y3, y4, y5, y6, y7, y8, y9, y10, y11, y12) p1 p2) p1 p3))))) else (if (yf_way (y0, y1, y2, y3, y4, y5, y6, y7, y8, y9, y10, y11, y12) p1 p2) = 4 then (((yf_told (y0, y1, y2, y3, y4, y5, y6, y7, y8, y9, y10, y11, y12) (yf_way (y0, y1, y2, y3, y4, y5, y6, y7, y8, y9, y10, y11, y12) p1 p2) p1 p3), (y0, y1, y2, y3, y4, y5, y6, y7, (y8 + 1), (y3 (p1).toNatClampNeg), p2, p1, (yf_logBehind (y0, y1, y2, y3, y4, y5, y6, y7, y8, y9, y10, y11, y12) (yf_way (y0, y1, y2, y3, y4, y5, y6, y7, y8, y9, y10, y11, y12) p1 p2) p1 p2 (yf_told (y0, y1, y2, y3, y4, y5, y6, y7, y8, y9, y10, y11, y12) (yf_way (y0, y1, y2, y3, y4, y5, y6, y7, y8, y9, y10, y11, y12) p1 p2) p1 p3))))) else (if (yf_way (y0, y1, y2, y3, y4, y5, y6, y7, y8, y9, y10, y11, y12) p1 p2) ≤ 1 then (((yf_told (y0, y1, y2, y3, y4, y5, y6, y7, y8, y9, y10, y11, y12) (yf_way (y0, y1, y2, y3, y4, y5, y6, y7, y8, y9, y10, y11, y12) p1 p2) p1 p3), (y0, y1, y2, y3, y4, y5, y6, y7, y8, y9, y10, y11, (yf_logBehind (y0, y1, y2, y3, y4, y5, y6, y7, y8, y9, y10, y11, y12) (yf_way (y0, y1, y2, y3, y4, y5, y6, y7, y8, y9, y10, y11, y12) p1 p2) p1 p2 (yf_told (y0, y1, y2, y3, y4, y5, y6, y7, y8, y9, y10, y11, y12) (yf_way (y0, y1, y2, y3, y4, y5, y6, y7, y8, y9, y10, y11, y12) p1 p2) p1 p3))))) else (((yf_told (y0, y1, y2, y3, y4, y5, y6, y7, y8, y9, y10, y11, y12) (yf_way (y0, y1, y2, y3, y4, y5, y6, y7, y8, y9, y10, y11, y12) p1 p2) p1 p3), (y0, y1, y2, y3, y4, y5, y6, (y7 + 1), y8, y9, y10, y11, (yf_logBehind (y0, y1, y2, y3, y4, y5, y6, y7, y8, y9, y10, y11, y12) (yf_way (y0, y1, y2, y3, y4, y5, y6, y7, y8, y9, y10, y11, y12) p1 p2) p1 p2 (yf_told (y0, y1, y2, y3, y4, y5, y6, y7, y8, y9, y10, y11, y12) (yf_way (y0, y1, y2, y3, y4, y5, y6, y7, y8, y9, y10, y11, y12) p1 p2) p1 p3)))))))
set_option maxHeartbeats 4000000 in
set_option maxRecDepth 100000 in
theorem yk_call (l : Launch) (D : va_G) (ad : Nat → Nat) (cd : Nat → ClassId) (u : YS) (sz : Nat) (p1 : Int32) (p2 : Int32) (p3 : Int64) (h2 : u.2.1 = nI (u.2.1).toNatClampNeg ∧ (u.2.1).toNatClampNeg ≤ 40) : Met l yX1_call wsX1_call ({ frames := 2, cells := 0, slots := 0, locals := 43 }) (yPc D ad cd u sz [.int p1, .int p2, .long p3]) (va_Ql (fun r u2 => (r, u2) = yf_call u p1 p2 p3) (yat D ad cd (va_A (yw ad cd u) sz)) (va_A (yw ad cd u) sz)) 0 0 (va_A (yw ad cd u) sz) := by
  obtain ⟨y0, y1, y2, y3, y4, y5, y6, y7, y8, y9, y10, y11, y12⟩ := u
  refine Met.ofW (cc := cX1_call) (maxL := 8) (ret := (some .long)) (by decide) rfl ?_
  intro p e s m args below meth c s₁ B hml hv
  obtain ⟨rfl, hsz, hP, hK, hD0⟩ := hv
  have hx := B.exec
  have hb := B.bytes
  have hr := B.returns
  have hts := atoms_spec (ws := wsX1_call) B.pre
  have hown : s.vm.findClass RX1 = some m.cls := findClass_of_methodNamed B.named
  have hlocks := B.notSynchronized
  subst hsz
  have hD := hD0.self (sz := s.heap.size)
  generalize hAe : va_A (yw ad cd (y0, y1, y2, y3, y4, y5, y6, y7, y8, y9, y10, y11, y12)) s.heap.size = A at hD ⊢
  have hA : ∀ q : Nat, s.heap.size ≤ q → A q := fun q h => by rw [← hAe]; exact Or.inr h
  have hS : va_S A s.heap s.heap [] := va_S.rf
  have hP : va_P D vwCl (yw ad cd (y0, y1, y2, y3, y4, y5, y6, y7, y8, y9, y10, y11, y12)) s.heap := hP
  have hl := lv_entry ([.ref (ad 0), .int p1, .int p2, .long p3]) (n := 8) (Nat.le_of_ble_eq_true rfl)
  rw [lg_entry_eq]
  generalize (lg_sl ([.ref (ad 0), .int p1, .int p2, .long p3]) ++ List.replicate (8 - (lg_sl ([.ref (ad 0), .int p1, .int p2, .long p3])).length) Slot.unset).toArray = ls at hl ⊢
  have hl : lv_has ls 8 [(0, .ref (ad 0)), (1, .int p1), (2, .int p2), (3, .long p3)] := hl
  refine lv_aload_n hx hb dX1_call_0 rfl (lv_at hl 0 rfl) ?_
  refine lv_iload_n hx hb dX1_call_1 rfl (lv_at hl 1 rfl) ?_
  refine lv_iload_n hx hb dX1_call_2 rfl (lv_at hl 2 rfl) ?_
  refine vp_callSi (W.runV (As := [.int p1, .int p2]) (rest := []) ⟨hx, hb, hml, hown, hts⟩ (yk_way l D ad cd (y0, y1, y2, y3, y4, y5, y6, y7, y8, y9, y10, y11, y12) p1 p2) (cwV 2 hts gX1_call_X1_way rfl rfl rfl (by decide +kernel) ⟨Nat.le_of_ble_eq_true rfl, Nat.le_of_ble_eq_true rfl⟩) ⟨fun a U g mk q => ⟨q.1, q.2.1, va_K.moved (u := U) (U := U.calling g mk a) (Vm.Alike.refl U.vm) q.2.2⟩, va_recv hK hP (ci := 1) (q0 := 0) rfl rfl, fun U hU hW => ⟨rfl, by rw [hU]; exact hP, va_K.moved hW.alike hK⟩⟩ rfl rfl hl.1 rfl (lv_room (Nat.le_of_ble_eq_true rfl)) dX1_call_3 ⟨Nat.zero_le _, Nat.zero_le _⟩) (fun r_3 hr_3 => ?_)
  subst hr_3
  refine lv_istore (lv' := [(5, .int (yf_way (y0, y1, y2, y3, y4, y5, y6, y7, y8, y9, y10, y11, y12) p1 p2)), (0, .ref (ad 0)), (1, .int p1), (2, .int p2), (3, .long p3)]) hx hb dX1_call_6 hl (by decide) rfl (fun ls hl => ?_)
  refine lv_aload_n hx hb dX1_call_8 rfl (lv_at hl 1 rfl) ?_
  refine lv_iload hx hb dX1_call_9 (lv_at hl 0 rfl) ?_
  refine lv_iload_n hx hb dX1_call_11 rfl (lv_at hl 2 rfl) ?_
  refine lv_lload_n hx hb dX1_call_12 rfl (lv_at hl 4 rfl) ?_
  refine vp_callSl (W.runV (As := [.int (yf_way (y0, y1, y2, y3, y4, y5, y6, y7, y8, y9, y10, y11, y12) p1 p2), .int p1, .long p3]) (rest := []) ⟨hx, hb, hml, hown, hts⟩ (yk_told l D ad cd (y0, y1, y2, y3, y4, y5, y6, y7, y8, y9, y10, y11, y12) (yf_way (y0, y1, y2, y3, y4, y5, y6, y7, y8, y9, y10, y11, y12) p1 p2) p1 p3 (ywy_le _ _ _) h2) (cwV 3 hts gX1_call_X1_told rfl rfl rfl (by decide +kernel) ⟨Nat.le_of_ble_eq_true rfl, Nat.le_of_ble_eq_true rfl⟩) ⟨fun a U g mk q => ⟨q.1, q.2.1, va_K.moved (u := U) (U := U.calling g mk a) (Vm.Alike.refl U.vm) q.2.2⟩, va_recv hK hP (ci := 1) (q0 := 0) rfl rfl, fun U hU hW => ⟨rfl, by rw [hU]; exact hP, va_K.moved hW.alike hK⟩⟩ rfl rfl hl.1 rfl (lv_room (Nat.le_of_ble_eq_true rfl)) dX1_call_13 ⟨Nat.zero_le _, Nat.zero_le _⟩) (fun r_13 hr_13 => ?_)
  subst hr_13
  refine lv_lstore (lv' := [(6, .long (yf_told (y0, y1, y2, y3, y4, y5, y6, y7, y8, y9, y10, y11, y12) (yf_way (y0, y1, y2, y3, y4, y5, y6, y7, y8, y9, y10, y11, y12) p1 p2) p1 p3)), (5, .int (yf_way (y0, y1, y2, y3, y4, y5, y6, y7, y8, y9, y10, y11, y12) p1 p2)), (0, .ref (ad 0)), (1, .int p1), (2, .int p2), (3, .long p3)]) hx hb dX1_call_16 hl (by decide) rfl (fun ls hl => ?_)
  refine lv_aload_n hx hb dX1_call_18 rfl (lv_at hl 2 rfl) ?_
  refine lv_aload_n hx hb dX1_call_19 rfl (lv_at hl 2 rfl) ?_
  refine lv_iload hx hb dX1_call_20 (lv_at hl 1 rfl) ?_
  refine lv_iload_n hx hb dX1_call_22 rfl (lv_at hl 3 rfl) ?_
  refine lv_iload_n hx hb dX1_call_23 rfl (lv_at hl 4 rfl) ?_
  refine lv_lload hx hb dX1_call_24 (lv_at hl 0 rfl) ?_
  refine vp_callSl (W.runV (As := [.int (yf_way (y0, y1, y2, y3, y4, y5, y6, y7, y8, y9, y10, y11, y12) p1 p2), .int p1, .int p2, .long (yf_told (y0, y1, y2, y3, y4, y5, y6, y7, y8, y9, y10, y11, y12) (yf_way (y0, y1, y2, y3, y4, y5, y6, y7, y8, y9, y10, y11, y12) p1 p2) p1 p3)]) (rest := [.ref (ad 0)]) ⟨hx, hb, hml, hown, hts⟩ (yk_logBehind l D ad cd (y0, y1, y2, y3, y4, y5, y6, y7, y8, y9, y10, y11, y12) (yf_way (y0, y1, y2, y3, y4, y5, y6, y7, y8, y9, y10, y11, y12) p1 p2) p1 p2 (yf_told (y0, y1, y2, y3, y4, y5, y6, y7, y8, y9, y10, y11, y12) (yf_way (y0, y1, y2, y3, y4, y5, y6, y7, y8, y9, y10, y11, y12) p1 p2) p1 p3) (ywy_4 _ _ _)) (cwV 4 hts gX1_call_X1_logBehind rfl rfl rfl (by decide +kernel) ⟨Nat.le_of_ble_eq_true rfl, Nat.le_of_ble_eq_true rfl⟩) ⟨fun a U g mk q => ⟨q.1, q.2.1, va_K.moved (u := U) (U := U.calling g mk a) (Vm.Alike.refl U.vm) q.2.2⟩, va_recv hK hP (ci := 1) (q0 := 0) rfl rfl, fun U hU hW => ⟨rfl, by rw [hU]; exact hP, va_K.moved hW.alike hK⟩⟩ rfl rfl hl.1 rfl (lv_room (Nat.le_of_ble_eq_true rfl)) dX1_call_26 ⟨Nat.zero_le _, Nat.zero_le _⟩) (fun r_26 hr_26 => ?_)
  subst hr_26
  refine va_put (D := D) (ci := 1) (v := .long (yf_logBehind (y0, y1, y2, y3, y4, y5, y6, y7, y8, y9, y10, y11, y12) (yf_way (y0, y1, y2, y3, y4, y5, y6, y7, y8, y9, y10, y11, y12) p1 p2) p1 p2 (yf_told (y0, y1, y2, y3, y4, y5, y6, y7, y8, y9, y10, y11, y12) (yf_way (y0, y1, y2, y3, y4, y5, y6, y7, y8, y9, y10, y11, y12) p1 p2) p1 p3))) (ty := .long) (C := RX1) (T := TX1) (N := 13) hx hb hts (fun _ h => List.mem_cons_of_mem _ (List.mem_append_right _ h)) tyX1 tyX1_ok nmX1 hown hK hP hD hS 0 rfl rfl 12 (by decide) (hts (.fieldLink RX1 29 "PostDesk2Model" "log" "J") (by decide +kernel)) (fun _ h9 => h9) rfl (by decide +kernel) rfl rfl (Nat.le_of_ble_eq_true rfl) dX1_call_29 (fun H locs hP hD hS => ?_)
  have hP : va_P D vwCl (yw ad cd (y0, y1, y2, y3, y4, y5, y6, y7, y8, y9, y10, y11, (yf_logBehind (y0, y1, y2, y3, y4, y5, y6, y7, y8, y9, y10, y11, y12) (yf_way (y0, y1, y2, y3, y4, y5, y6, y7, y8, y9, y10, y11, y12) p1 p2) p1 p2 (yf_told (y0, y1, y2, y3, y4, y5, y6, y7, y8, y9, y10, y11, y12) (yf_way (y0, y1, y2, y3, y4, y5, y6, y7, y8, y9, y10, y11, y12) p1 p2) p1 p3)))) H := hP
  have hD : va_D A (yw ad cd (y0, y1, y2, y3, y4, y5, y6, y7, y8, y9, y10, y11, (yf_logBehind (y0, y1, y2, y3, y4, y5, y6, y7, y8, y9, y10, y11, y12) (yf_way (y0, y1, y2, y3, y4, y5, y6, y7, y8, y9, y10, y11, y12) p1 p2) p1 p2 (yf_told (y0, y1, y2, y3, y4, y5, y6, y7, y8, y9, y10, y11, y12) (yf_way (y0, y1, y2, y3, y4, y5, y6, y7, y8, y9, y10, y11, y12) p1 p2) p1 p3)))) := hD
  refine lv_iload hx hb dX1_call_32 (lv_at hl 1 rfl) ?_
  refine lv_if_ne (tgt := 55) hx hb dX1_call_34 (by decide) (fun c_34 => ?_) (fun c_34 => ?_)
  · refine lv_iload hx hb dX1_call_55 (lv_at hl 1 rfl) ?_
    refine lv_iconst (v := 4) hx hb dX1_call_57 (by decide) ?_
    refine lv_icmp_ne (tgt := 94) hx hb dX1_call_58 (by decide) (fun c_58 => ?_) (fun c_58 => ?_)
    · refine lv_iload hx hb dX1_call_94 (lv_at hl 1 rfl) ?_
      refine lv_iconst (v := 1) hx hb dX1_call_96 (by decide) ?_
      refine lv_icmp_le (tgt := 110) hx hb dX1_call_97 (by decide) (fun c_97 => ?_) (fun c_97 => ?_)
      · refine lv_lload hx hb dX1_call_110 (lv_at hl 0 rfl) ?_
        exact W.lret (v := (yf_told (y0, y1, y2, y3, y4, y5, y6, y7, y8, y9, y10, y11, y12) (yf_way (y0, y1, y2, y3, y4, y5, y6, y7, y8, y9, y10, y11, y12) p1 p2) p1 p3)) hx hb hr (fun t ht hW => ⟨⟨(yf_told (y0, y1, y2, y3, y4, y5, y6, y7, y8, y9, y10, y11, y12) (yf_way (y0, y1, y2, y3, y4, y5, y6, y7, y8, y9, y10, y11, y12) p1 p2) p1 p3), (y0, y1, y2, y3, y4, y5, y6, y7, y8, y9, y10, y11, (yf_logBehind (y0, y1, y2, y3, y4, y5, y6, y7, y8, y9, y10, y11, y12) (yf_way (y0, y1, y2, y3, y4, y5, y6, y7, y8, y9, y10, y11, y12) p1 p2) p1 p2 (yf_told (y0, y1, y2, y3, y4, y5, y6, y7, y8, y9, y10, y11, y12) (yf_way (y0, y1, y2, y3, y4, y5, y6, y7, y8, y9, y10, y11, y12) p1 p2) p1 p3))), rfl, (by simp only [yf_call, if_neg c_34, if_neg c_58, if_pos c_97]), by rw [ht]; exact hP, va_K.moved hW.alike hK, hD⟩, hS.F ht⟩) hS.2.2 dX1_call_112
      · refine lv_aload_n hx hb dX1_call_100 rfl (lv_at hl 2 rfl) ?_
        refine lv_dup hx hb dX1_call_101 rfl ?_
        refine va_get (D := D) (ci := 1) (v := .long y7) (C := RX1) (T := TX1) (N := 13) hx hb hts (fun _ h => List.mem_cons_of_mem _ (List.mem_append_right _ h)) hown hK hP 0 rfl rfl 7 (by decide) (hts (.fieldLink RX1 84 "PostDesk2Model" "refused" "J") (by decide +kernel)) (fun _ h9 => h9) rfl dX1_call_102 ?_
        refine lv_lconst (v := 1) hx hb dX1_call_105 (by decide) ?_
        refine lv_ladd hx hb dX1_call_106 ?_
        refine va_put (D := D) (ci := 1) (v := .long (y7 + 1)) (ty := .long) (C := RX1) (T := TX1) (N := 13) hx hb hts (fun _ h => List.mem_cons_of_mem _ (List.mem_append_right _ h)) tyX1 tyX1_ok nmX1 hown hK hP hD hS 0 rfl rfl 7 (by decide) (hts (.fieldLink RX1 84 "PostDesk2Model" "refused" "J") (by decide +kernel)) (fun _ h9 => h9) rfl (by decide +kernel) rfl rfl (Nat.le_of_ble_eq_true rfl) dX1_call_107 (fun H locs hP hD hS => ?_)
        have hP : va_P D vwCl (yw ad cd (y0, y1, y2, y3, y4, y5, y6, (y7 + 1), y8, y9, y10, y11, (yf_logBehind (y0, y1, y2, y3, y4, y5, y6, y7, y8, y9, y10, y11, y12) (yf_way (y0, y1, y2, y3, y4, y5, y6, y7, y8, y9, y10, y11, y12) p1 p2) p1 p2 (yf_told (y0, y1, y2, y3, y4, y5, y6, y7, y8, y9, y10, y11, y12) (yf_way (y0, y1, y2, y3, y4, y5, y6, y7, y8, y9, y10, y11, y12) p1 p2) p1 p3)))) H := hP
        have hD : va_D A (yw ad cd (y0, y1, y2, y3, y4, y5, y6, (y7 + 1), y8, y9, y10, y11, (yf_logBehind (y0, y1, y2, y3, y4, y5, y6, y7, y8, y9, y10, y11, y12) (yf_way (y0, y1, y2, y3, y4, y5, y6, y7, y8, y9, y10, y11, y12) p1 p2) p1 p2 (yf_told (y0, y1, y2, y3, y4, y5, y6, y7, y8, y9, y10, y11, y12) (yf_way (y0, y1, y2, y3, y4, y5, y6, y7, y8, y9, y10, y11, y12) p1 p2) p1 p3)))) := hD
        refine lv_lload hx hb dX1_call_110 (lv_at hl 0 rfl) ?_
        exact W.lret (v := (yf_told (y0, y1, y2, y3, y4, y5, y6, y7, y8, y9, y10, y11, y12) (yf_way (y0, y1, y2, y3, y4, y5, y6, y7, y8, y9, y10, y11, y12) p1 p2) p1 p3)) hx hb hr (fun t ht hW => ⟨⟨(yf_told (y0, y1, y2, y3, y4, y5, y6, y7, y8, y9, y10, y11, y12) (yf_way (y0, y1, y2, y3, y4, y5, y6, y7, y8, y9, y10, y11, y12) p1 p2) p1 p3), (y0, y1, y2, y3, y4, y5, y6, (y7 + 1), y8, y9, y10, y11, (yf_logBehind (y0, y1, y2, y3, y4, y5, y6, y7, y8, y9, y10, y11, y12) (yf_way (y0, y1, y2, y3, y4, y5, y6, y7, y8, y9, y10, y11, y12) p1 p2) p1 p2 (yf_told (y0, y1, y2, y3, y4, y5, y6, y7, y8, y9, y10, y11, y12) (yf_way (y0, y1, y2, y3, y4, y5, y6, y7, y8, y9, y10, y11, y12) p1 p2) p1 p3))), rfl, (by simp only [yf_call, if_neg c_34, if_neg c_58, if_neg c_97]), by rw [ht]; exact hP, va_K.moved hW.alike hK, hD⟩, hS.F ht⟩) hS.2.2 dX1_call_112
    · refine lv_aload_n hx hb dX1_call_61 rfl (lv_at hl 2 rfl) ?_
      refine lv_dup hx hb dX1_call_62 rfl ?_
      refine va_get (D := D) (ci := 1) (v := .long y8) (C := RX1) (T := TX1) (N := 13) hx hb hts (fun _ h => List.mem_cons_of_mem _ (List.mem_append_right _ h)) hown hK hP 0 rfl rfl 8 (by decide) (hts (.fieldLink RX1 72 "PostDesk2Model" "failed" "J") (by decide +kernel)) (fun _ h9 => h9) rfl dX1_call_63 ?_
      refine lv_lconst (v := 1) hx hb dX1_call_66 (by decide) ?_
      refine lv_ladd hx hb dX1_call_67 ?_
      refine va_put (D := D) (ci := 1) (v := .long (y8 + 1)) (ty := .long) (C := RX1) (T := TX1) (N := 13) hx hb hts (fun _ h => List.mem_cons_of_mem _ (List.mem_append_right _ h)) tyX1 tyX1_ok nmX1 hown hK hP hD hS 0 rfl rfl 8 (by decide) (hts (.fieldLink RX1 72 "PostDesk2Model" "failed" "J") (by decide +kernel)) (fun _ h9 => h9) rfl (by decide +kernel) rfl rfl (Nat.le_of_ble_eq_true rfl) dX1_call_68 (fun H locs hP hD hS => ?_)
      have hP : va_P D vwCl (yw ad cd (y0, y1, y2, y3, y4, y5, y6, y7, (y8 + 1), y9, y10, y11, (yf_logBehind (y0, y1, y2, y3, y4, y5, y6, y7, y8, y9, y10, y11, y12) (yf_way (y0, y1, y2, y3, y4, y5, y6, y7, y8, y9, y10, y11, y12) p1 p2) p1 p2 (yf_told (y0, y1, y2, y3, y4, y5, y6, y7, y8, y9, y10, y11, y12) (yf_way (y0, y1, y2, y3, y4, y5, y6, y7, y8, y9, y10, y11, y12) p1 p2) p1 p3)))) H := hP
      have hD : va_D A (yw ad cd (y0, y1, y2, y3, y4, y5, y6, y7, (y8 + 1), y9, y10, y11, (yf_logBehind (y0, y1, y2, y3, y4, y5, y6, y7, y8, y9, y10, y11, y12) (yf_way (y0, y1, y2, y3, y4, y5, y6, y7, y8, y9, y10, y11, y12) p1 p2) p1 p2 (yf_told (y0, y1, y2, y3, y4, y5, y6, y7, y8, y9, y10, y11, y12) (yf_way (y0, y1, y2, y3, y4, y5, y6, y7, y8, y9, y10, y11, y12) p1 p2) p1 p3)))) := hD
      refine lv_aload_n hx hb dX1_call_71 rfl (lv_at hl 2 rfl) ?_
      refine lv_aload_n hx hb dX1_call_72 rfl (lv_at hl 2 rfl) ?_
      refine va_get (D := D) (ci := 1) (v := .ref (ad 3)) (C := RX1) (T := TX1) (N := 13) hx hb hts (fun _ h => List.mem_cons_of_mem _ (List.mem_append_right _ h)) hown hK hP 0 rfl rfl 3 (by decide) (hts (.fieldLink RX1 16 "PostDesk2Model" "failure" "[I") (by decide +kernel)) (fun _ h9 => h9) rfl dX1_call_73 ?_
      refine lv_iload_n hx hb dX1_call_76 rfl (lv_at hl 3 rfl) ?_
      refine va_iald hx hb hK hP 3 2 rfl rfl (ywy_4 _ _ _ c_58) dX1_call_77 ?_
      refine va_put (D := D) (ci := 1) (v := .int (y3 (p1).toNatClampNeg)) (ty := .int) (C := RX1) (T := TX1) (N := 13) hx hb hts (fun _ h => List.mem_cons_of_mem _ (List.mem_append_right _ h)) tyX1 tyX1_ok nmX1 hown hK hP hD hS 0 rfl rfl 9 (by decide) (hts (.fieldLink RX1 75 "PostDesk2Model" "kindOf" "I") (by decide +kernel)) (fun _ h9 => h9) rfl (by decide +kernel) rfl rfl (Nat.le_of_ble_eq_true rfl) dX1_call_78 (fun H locs hP hD hS => ?_)
      have hP : va_P D vwCl (yw ad cd (y0, y1, y2, y3, y4, y5, y6, y7, (y8 + 1), (y3 (p1).toNatClampNeg), y10, y11, (yf_logBehind (y0, y1, y2, y3, y4, y5, y6, y7, y8, y9, y10, y11, y12) (yf_way (y0, y1, y2, y3, y4, y5, y6, y7, y8, y9, y10, y11, y12) p1 p2) p1 p2 (yf_told (y0, y1, y2, y3, y4, y5, y6, y7, y8, y9, y10, y11, y12) (yf_way (y0, y1, y2, y3, y4, y5, y6, y7, y8, y9, y10, y11, y12) p1 p2) p1 p3)))) H := hP
      have hD : va_D A (yw ad cd (y0, y1, y2, y3, y4, y5, y6, y7, (y8 + 1), (y3 (p1).toNatClampNeg), y10, y11, (yf_logBehind (y0, y1, y2, y3, y4, y5, y6, y7, y8, y9, y10, y11, y12) (yf_way (y0, y1, y2, y3, y4, y5, y6, y7, y8, y9, y10, y11, y12) p1 p2) p1 p2 (yf_told (y0, y1, y2, y3, y4, y5, y6, y7, y8, y9, y10, y11, y12) (yf_way (y0, y1, y2, y3, y4, y5, y6, y7, y8, y9, y10, y11, y12) p1 p2) p1 p3)))) := hD
      refine lv_aload_n hx hb dX1_call_81 rfl (lv_at hl 2 rfl) ?_
      refine lv_iload_n hx hb dX1_call_82 rfl (lv_at hl 4 rfl) ?_
      refine va_put (D := D) (ci := 1) (v := .int p2) (ty := .int) (C := RX1) (T := TX1) (N := 13) hx hb hts (fun _ h => List.mem_cons_of_mem _ (List.mem_append_right _ h)) tyX1 tyX1_ok nmX1 hown hK hP hD hS 0 rfl rfl 10 (by decide) (hts (.fieldLink RX1 78 "PostDesk2Model" "numberOf" "I") (by decide +kernel)) (fun _ h9 => h9) rfl (by decide +kernel) rfl rfl (Nat.le_of_ble_eq_true rfl) dX1_call_83 (fun H locs hP hD hS => ?_)
      have hP : va_P D vwCl (yw ad cd (y0, y1, y2, y3, y4, y5, y6, y7, (y8 + 1), (y3 (p1).toNatClampNeg), p2, y11, (yf_logBehind (y0, y1, y2, y3, y4, y5, y6, y7, y8, y9, y10, y11, y12) (yf_way (y0, y1, y2, y3, y4, y5, y6, y7, y8, y9, y10, y11, y12) p1 p2) p1 p2 (yf_told (y0, y1, y2, y3, y4, y5, y6, y7, y8, y9, y10, y11, y12) (yf_way (y0, y1, y2, y3, y4, y5, y6, y7, y8, y9, y10, y11, y12) p1 p2) p1 p3)))) H := hP
      have hD : va_D A (yw ad cd (y0, y1, y2, y3, y4, y5, y6, y7, (y8 + 1), (y3 (p1).toNatClampNeg), p2, y11, (yf_logBehind (y0, y1, y2, y3, y4, y5, y6, y7, y8, y9, y10, y11, y12) (yf_way (y0, y1, y2, y3, y4, y5, y6, y7, y8, y9, y10, y11, y12) p1 p2) p1 p2 (yf_told (y0, y1, y2, y3, y4, y5, y6, y7, y8, y9, y10, y11, y12) (yf_way (y0, y1, y2, y3, y4, y5, y6, y7, y8, y9, y10, y11, y12) p1 p2) p1 p3)))) := hD
      refine lv_aload_n hx hb dX1_call_86 rfl (lv_at hl 2 rfl) ?_
      refine lv_iload_n hx hb dX1_call_87 rfl (lv_at hl 3 rfl) ?_
      refine va_put (D := D) (ci := 1) (v := .int p1) (ty := .int) (C := RX1) (T := TX1) (N := 13) hx hb hts (fun _ h => List.mem_cons_of_mem _ (List.mem_append_right _ h)) tyX1 tyX1_ok nmX1 hown hK hP hD hS 0 rfl rfl 11 (by decide) (hts (.fieldLink RX1 81 "PostDesk2Model" "callOf" "I") (by decide +kernel)) (fun _ h9 => h9) rfl (by decide +kernel) rfl rfl (Nat.le_of_ble_eq_true rfl) dX1_call_88 (fun H locs hP hD hS => ?_)
      have hP : va_P D vwCl (yw ad cd (y0, y1, y2, y3, y4, y5, y6, y7, (y8 + 1), (y3 (p1).toNatClampNeg), p2, p1, (yf_logBehind (y0, y1, y2, y3, y4, y5, y6, y7, y8, y9, y10, y11, y12) (yf_way (y0, y1, y2, y3, y4, y5, y6, y7, y8, y9, y10, y11, y12) p1 p2) p1 p2 (yf_told (y0, y1, y2, y3, y4, y5, y6, y7, y8, y9, y10, y11, y12) (yf_way (y0, y1, y2, y3, y4, y5, y6, y7, y8, y9, y10, y11, y12) p1 p2) p1 p3)))) H := hP
      have hD : va_D A (yw ad cd (y0, y1, y2, y3, y4, y5, y6, y7, (y8 + 1), (y3 (p1).toNatClampNeg), p2, p1, (yf_logBehind (y0, y1, y2, y3, y4, y5, y6, y7, y8, y9, y10, y11, y12) (yf_way (y0, y1, y2, y3, y4, y5, y6, y7, y8, y9, y10, y11, y12) p1 p2) p1 p2 (yf_told (y0, y1, y2, y3, y4, y5, y6, y7, y8, y9, y10, y11, y12) (yf_way (y0, y1, y2, y3, y4, y5, y6, y7, y8, y9, y10, y11, y12) p1 p2) p1 p3)))) := hD
      refine lv_goto (tgt := 110) hx hb dX1_call_91 (by decide) ?_
      refine lv_lload hx hb dX1_call_110 (lv_at hl 0 rfl) ?_
      exact W.lret (v := (yf_told (y0, y1, y2, y3, y4, y5, y6, y7, y8, y9, y10, y11, y12) (yf_way (y0, y1, y2, y3, y4, y5, y6, y7, y8, y9, y10, y11, y12) p1 p2) p1 p3)) hx hb hr (fun t ht hW => ⟨⟨(yf_told (y0, y1, y2, y3, y4, y5, y6, y7, y8, y9, y10, y11, y12) (yf_way (y0, y1, y2, y3, y4, y5, y6, y7, y8, y9, y10, y11, y12) p1 p2) p1 p3), (y0, y1, y2, y3, y4, y5, y6, y7, (y8 + 1), (y3 (p1).toNatClampNeg), p2, p1, (yf_logBehind (y0, y1, y2, y3, y4, y5, y6, y7, y8, y9, y10, y11, y12) (yf_way (y0, y1, y2, y3, y4, y5, y6, y7, y8, y9, y10, y11, y12) p1 p2) p1 p2 (yf_told (y0, y1, y2, y3, y4, y5, y6, y7, y8, y9, y10, y11, y12) (yf_way (y0, y1, y2, y3, y4, y5, y6, y7, y8, y9, y10, y11, y12) p1 p2) p1 p3))), rfl, (by simp only [yf_call, if_neg c_34, if_pos c_58]), by rw [ht]; exact hP, va_K.moved hW.alike hK, hD⟩, hS.F ht⟩) hS.2.2 dX1_call_112
  · refine lv_aload_n hx hb dX1_call_37 rfl (lv_at hl 2 rfl) ?_
    refine lv_dup hx hb dX1_call_38 rfl ?_
    refine va_get (D := D) (ci := 1) (v := .long y6) (C := RX1) (T := TX1) (N := 13) hx hb hts (fun _ h => List.mem_cons_of_mem _ (List.mem_append_right _ h)) hown hK hP 0 rfl rfl 6 (by decide) (hts (.fieldLink RX1 69 "PostDesk2Model" "answered" "J") (by decide +kernel)) (fun _ h9 => h9) rfl dX1_call_39 ?_
    refine lv_lconst (v := 1) hx hb dX1_call_42 (by decide) ?_
    refine lv_ladd hx hb dX1_call_43 ?_
    refine va_put (D := D) (ci := 1) (v := .long (y6 + 1)) (ty := .long) (C := RX1) (T := TX1) (N := 13) hx hb hts (fun _ h => List.mem_cons_of_mem _ (List.mem_append_right _ h)) tyX1 tyX1_ok nmX1 hown hK hP hD hS 0 rfl rfl 6 (by decide) (hts (.fieldLink RX1 69 "PostDesk2Model" "answered" "J") (by decide +kernel)) (fun _ h9 => h9) rfl (by decide +kernel) rfl rfl (Nat.le_of_ble_eq_true rfl) dX1_call_44 (fun H locs hP hD hS => ?_)
    have hP : va_P D vwCl (yw ad cd (y0, y1, y2, y3, y4, y5, (y6 + 1), y7, y8, y9, y10, y11, (yf_logBehind (y0, y1, y2, y3, y4, y5, y6, y7, y8, y9, y10, y11, y12) (yf_way (y0, y1, y2, y3, y4, y5, y6, y7, y8, y9, y10, y11, y12) p1 p2) p1 p2 (yf_told (y0, y1, y2, y3, y4, y5, y6, y7, y8, y9, y10, y11, y12) (yf_way (y0, y1, y2, y3, y4, y5, y6, y7, y8, y9, y10, y11, y12) p1 p2) p1 p3)))) H := hP
    have hD : va_D A (yw ad cd (y0, y1, y2, y3, y4, y5, (y6 + 1), y7, y8, y9, y10, y11, (yf_logBehind (y0, y1, y2, y3, y4, y5, y6, y7, y8, y9, y10, y11, y12) (yf_way (y0, y1, y2, y3, y4, y5, y6, y7, y8, y9, y10, y11, y12) p1 p2) p1 p2 (yf_told (y0, y1, y2, y3, y4, y5, y6, y7, y8, y9, y10, y11, y12) (yf_way (y0, y1, y2, y3, y4, y5, y6, y7, y8, y9, y10, y11, y12) p1 p2) p1 p3)))) := hD
    refine lv_aload_n hx hb dX1_call_47 rfl (lv_at hl 2 rfl) ?_
    refine lv_iconst (v := 0) hx hb dX1_call_48 (by decide) ?_
    refine va_put (D := D) (ci := 1) (v := .int 0) (ty := .int) (C := RX1) (T := TX1) (N := 13) hx hb hts (fun _ h => List.mem_cons_of_mem _ (List.mem_append_right _ h)) tyX1 tyX1_ok nmX1 hown hK hP hD hS 0 rfl rfl 1 (by decide) (hts (.fieldLink RX1 33 "PostDesk2Model" "many" "I") (by decide +kernel)) (fun _ h9 => h9) rfl (by decide +kernel) rfl rfl (Nat.le_of_ble_eq_true rfl) dX1_call_49 (fun H locs hP hD hS => ?_)
    have hP : va_P D vwCl (yw ad cd (y0, 0, y2, y3, y4, y5, (y6 + 1), y7, y8, y9, y10, y11, (yf_logBehind (y0, y1, y2, y3, y4, y5, y6, y7, y8, y9, y10, y11, y12) (yf_way (y0, y1, y2, y3, y4, y5, y6, y7, y8, y9, y10, y11, y12) p1 p2) p1 p2 (yf_told (y0, y1, y2, y3, y4, y5, y6, y7, y8, y9, y10, y11, y12) (yf_way (y0, y1, y2, y3, y4, y5, y6, y7, y8, y9, y10, y11, y12) p1 p2) p1 p3)))) H := hP
    have hD : va_D A (yw ad cd (y0, 0, y2, y3, y4, y5, (y6 + 1), y7, y8, y9, y10, y11, (yf_logBehind (y0, y1, y2, y3, y4, y5, y6, y7, y8, y9, y10, y11, y12) (yf_way (y0, y1, y2, y3, y4, y5, y6, y7, y8, y9, y10, y11, y12) p1 p2) p1 p2 (yf_told (y0, y1, y2, y3, y4, y5, y6, y7, y8, y9, y10, y11, y12) (yf_way (y0, y1, y2, y3, y4, y5, y6, y7, y8, y9, y10, y11, y12) p1 p2) p1 p3)))) := hD
    refine lv_goto (tgt := 110) hx hb dX1_call_52 (by decide) ?_
    refine lv_lload hx hb dX1_call_110 (lv_at hl 0 rfl) ?_
    exact W.lret (v := (yf_told (y0, y1, y2, y3, y4, y5, y6, y7, y8, y9, y10, y11, y12) (yf_way (y0, y1, y2, y3, y4, y5, y6, y7, y8, y9, y10, y11, y12) p1 p2) p1 p3)) hx hb hr (fun t ht hW => ⟨⟨(yf_told (y0, y1, y2, y3, y4, y5, y6, y7, y8, y9, y10, y11, y12) (yf_way (y0, y1, y2, y3, y4, y5, y6, y7, y8, y9, y10, y11, y12) p1 p2) p1 p3), (y0, 0, y2, y3, y4, y5, (y6 + 1), y7, y8, y9, y10, y11, (yf_logBehind (y0, y1, y2, y3, y4, y5, y6, y7, y8, y9, y10, y11, y12) (yf_way (y0, y1, y2, y3, y4, y5, y6, y7, y8, y9, y10, y11, y12) p1 p2) p1 p2 (yf_told (y0, y1, y2, y3, y4, y5, y6, y7, y8, y9, y10, y11, y12) (yf_way (y0, y1, y2, y3, y4, y5, y6, y7, y8, y9, y10, y11, y12) p1 p2) p1 p3))), rfl, (by simp only [yf_call, if_pos c_34]), by rw [ht]; exact hP, va_K.moved hW.alike hK, hD⟩, hS.F ht⟩) hS.2.2 dX1_call_112
end
section
def y_new : YS := ((fun _ => 0), 0, (fun _ => 0), (fun _ => 0), (fun _ => 0), (fun _ => 0), 0, 0, 0, 0, 0, 0, 7)
set_option maxHeartbeats 4000000 in
set_option maxRecDepth 100000 in
theorem yk_init (l : Launch) (D : va_G) (h0 sz : Nat) : Met l yX1_init wsX1_init ({ frames := 1, cells := 5, slots := 1090, locals := 12 }) (va_Pc [.ref h0] (fun U => U.heap.size = sz ∧ va_P D vwCl [(h0, .inr (1, [.null, .int 0, .null, .null, .null, .null, .long 0, .long 0, .long 0, .int 0, .int 0, .int 0, .long 0]))] U.heap ∧ va_K D vwCl [] U ∧ va_D (fun _ => True) [(h0, .inr (1, [.null, .int 0, .null, .null, .null, .null, .long 0, .long 0, .long 0, .int 0, .int 0, .int 0, .long 0]))])) (va_Qv (fun u : YS => u = y_new) (fun u t => ∃ (ad : Nat → Nat) (cd : Nat → ClassId), ad 0 = h0 ∧ yat D ad cd (va_A [(h0, .inr (1, [.null, .int 0, .null, .null, .null, .null, .long 0, .long 0, .long 0, .int 0, .int 0, .int 0, .long 0]))] sz) u t) (va_A [(h0, .inr (1, [.null, .int 0, .null, .null, .null, .null, .long 0, .long 0, .long 0, .int 0, .int 0, .int 0, .long 0]))] sz)) 5 1090 (va_A [(h0, .inr (1, [.null, .int 0, .null, .null, .null, .null, .long 0, .long 0, .long 0, .int 0, .int 0, .int 0, .long 0]))] sz) := by
  refine Met.ofW (cc := cX1_init) (maxL := 1) (ret := none) (by decide) rfl ?_
  intro p e s m args below meth c s₁ B hml hv
  obtain ⟨rfl, hsz, hP, hK, hD0⟩ := hv
  have hx := B.exec
  have hb := B.bytes
  have hr := B.returns
  have hts := atoms_spec (ws := wsX1_init) B.pre
  have hown : s.vm.findClass RX1 = some m.cls := findClass_of_methodNamed B.named
  have hlocks := B.notSynchronized
  have hin : meth.name = "<init>" := (name_of_methodNamed B.named B.method).1
  subst hsz
  have hD := hD0.self (sz := s.heap.size)
  generalize hAe : va_A [(h0, .inr (1, [.null, .int 0, .null, .null, .null, .null, .long 0, .long 0, .long 0, .int 0, .int 0, .int 0, .long 0]))] s.heap.size = A at hD ⊢
  have hA : ∀ q : Nat, s.heap.size ≤ q → A q := fun q h => by rw [← hAe]; exact Or.inr h
  have hS : va_S A s.heap s.heap [] := va_S.rf
  have hP : va_P D vwCl [(h0, .inr (1, [.null, .int 0, .null, .null, .null, .null, .long 0, .long 0, .long 0, .int 0, .int 0, .int 0, .long 0]))] s.heap := hP
  have hl := lv_entry ([.ref h0]) (n := 1) (Nat.le_of_ble_eq_true rfl)
  rw [lg_entry_eq]
  generalize (lg_sl ([.ref h0]) ++ List.replicate (1 - (lg_sl ([.ref h0])).length) Slot.unset).toArray = ls at hl ⊢
  have hl : lv_has ls 1 [(0, .ref h0)] := hl
  refine lv_aload_n hx hb dX1_init_0 rfl (lv_at hl 0 rfl) ?_
  refine W.objInit hx hb hown (hts (.methodLink RX1 1 objectInit) (by decide +kernel)) (hts (.instanceMethod objectInit) (by decide +kernel)) (hts _ (List.mem_of_getElem? (i := 3) rfl)) rfl (by rw [hml]; exact hl.1) rfl dX1_init_1 (Nat.le_of_ble_eq_true rfl) (Nat.le_of_ble_eq_true rfl) ?_
  refine W.eq (g2 := F0 m 4 ls []) rfl ?_
  refine lv_aload_n hx hb dX1_init_4 rfl (lv_at hl 0 rfl) ?_
  refine lv_bipush (v := 40) hx hb dX1_init_5 (by decide) ?_
  have hby : 40 * componentBytes .long ≤ 536870912 := by decide +kernel
  have hce : 0 + 1 ≤ 5 := by decide
  have hsl : 0 + 40 ≤ 1090 := by decide
  have hNN : (40 : Int32).toNatClampNeg = 40 := by decide
  refine va_newa (atype := .long) (D := D) (cl := vwCl) (ty := .long) (N' := 40) (a0 := (40, .inr (.inl (fun _ => 0)))) hx hb (hts (.arrayClass .long) (by decide +kernel)) rfl hK hP hD hS hA (fun cA => vp_cell_l cA 40 (fun _ => 0)) (by decide) hNN hby hce hsl dX1_init_7 (fun q7 k7 H hK hP hD hS => ?_)
  have hK : va_K D vwCl [(k7, .long)] s := hK
  have hP : va_P D vwCl [(h0, .inr (1, [.null, .int 0, .null, .null, .null, .null, .long 0, .long 0, .long 0, .int 0, .int 0, .int 0, .long 0])), (q7, .inl (k7, 40, .inr (.inl (fun _ => 0))))] H := hP
  have hD : va_D A [(h0, .inr (1, [.null, .int 0, .null, .null, .null, .null, .long 0, .long 0, .long 0, .int 0, .int 0, .int 0, .long 0])), (q7, .inl (k7, 40, .inr (.inl (fun _ => 0))))] := hD
  refine W.widen (k := 1) (n := 40) (by decide) (by decide) ?_
  refine va_putF (D := D) (ci := 1) (v := .ref q7) (ty := .array .long) (C := RX1) (T := TX1) (N := 13) hx hb hts (fun _ h => List.mem_cons_of_mem _ (List.mem_append_right _ h)) tyX1 tyX1_ok nmX1 hown hK hP hD hS 0 rfl rfl 0 (by decide) (hts (.fieldLink RX1 7 "PostDesk2Model" "collected" "[J") (by decide +kernel)) (fun _ h9 => h9) rfl hin rfl (by decide +kernel) rfl rfl (Nat.le_of_ble_eq_true rfl) dX1_init_9 (fun H locs hP hD hS => ?_)
  have hP : va_P D vwCl [(h0, .inr (1, [.ref q7, .int 0, .null, .null, .null, .null, .long 0, .long 0, .long 0, .int 0, .int 0, .int 0, .long 0])), (q7, .inl (k7, 40, .inr (.inl (fun _ => 0))))] H := hP
  have hD : va_D A [(h0, .inr (1, [.ref q7, .int 0, .null, .null, .null, .null, .long 0, .long 0, .long 0, .int 0, .int 0, .int 0, .long 0])), (q7, .inl (k7, 40, .inr (.inl (fun _ => 0))))] := hD
  refine lv_aload_n hx hb dX1_init_12 rfl (lv_at hl 0 rfl) ?_
  refine lv_bipush (v := 20) hx hb dX1_init_13 (by decide) ?_
  have hby : 20 * componentBytes .long ≤ 536870912 := by decide +kernel
  have hce : 1 + 1 ≤ 5 := by decide
  have hsl : 40 + 20 ≤ 1090 := by decide
  have hNN : (20 : Int32).toNatClampNeg = 20 := by decide
  refine va_newa (atype := .long) (D := D) (cl := vwCl) (ty := .long) (N' := 20) (a0 := (20, .inr (.inl (fun _ => 0)))) hx hb (hts (.arrayClass .long) (by decide +kernel)) rfl hK hP hD hS hA (fun cA => vp_cell_l cA 20 (fun _ => 0)) (by decide) hNN hby hce hsl dX1_init_15 (fun q15 k15 H hK hP hD hS => ?_)
  have hK : va_K D vwCl [(k7, .long), (k15, .long)] s := hK
  have hP : va_P D vwCl [(h0, .inr (1, [.ref q7, .int 0, .null, .null, .null, .null, .long 0, .long 0, .long 0, .int 0, .int 0, .int 0, .long 0])), (q7, .inl (k7, 40, .inr (.inl (fun _ => 0)))), (q15, .inl (k15, 20, .inr (.inl (fun _ => 0))))] H := hP
  have hD : va_D A [(h0, .inr (1, [.ref q7, .int 0, .null, .null, .null, .null, .long 0, .long 0, .long 0, .int 0, .int 0, .int 0, .long 0])), (q7, .inl (k7, 40, .inr (.inl (fun _ => 0)))), (q15, .inl (k15, 20, .inr (.inl (fun _ => 0))))] := hD
  refine W.widen (k := 2) (n := 60) (by decide) (by decide) ?_
  refine va_putF (D := D) (ci := 1) (v := .ref q15) (ty := .array .long) (C := RX1) (T := TX1) (N := 13) hx hb hts (fun _ h => List.mem_cons_of_mem _ (List.mem_append_right _ h)) tyX1 tyX1_ok nmX1 hown hK hP hD hS 0 rfl rfl 2 (by decide) (hts (.fieldLink RX1 13 "PostDesk2Model" "value" "[J") (by decide +kernel)) (fun _ h9 => h9) rfl hin rfl (by decide +kernel) rfl rfl (Nat.le_of_ble_eq_true rfl) dX1_init_17 (fun H locs hP hD hS => ?_)
  have hP : va_P D vwCl [(h0, .inr (1, [.ref q7, .int 0, .ref q15, .null, .null, .null, .long 0, .long 0, .long 0, .int 0, .int 0, .int 0, .long 0])), (q7, .inl (k7, 40, .inr (.inl (fun _ => 0)))), (q15, .inl (k15, 20, .inr (.inl (fun _ => 0))))] H := hP
  have hD : va_D A [(h0, .inr (1, [.ref q7, .int 0, .ref q15, .null, .null, .null, .long 0, .long 0, .long 0, .int 0, .int 0, .int 0, .long 0])), (q7, .inl (k7, 40, .inr (.inl (fun _ => 0)))), (q15, .inl (k15, 20, .inr (.inl (fun _ => 0))))] := hD
  refine lv_aload_n hx hb dX1_init_20 rfl (lv_at hl 0 rfl) ?_
  refine lv_bipush (v := 20) hx hb dX1_init_21 (by decide) ?_
  have hby : 20 * componentBytes .int ≤ 536870912 := by decide +kernel
  have hce : 2 + 1 ≤ 5 := by decide
  have hsl : 60 + 20 ≤ 1090 := by decide
  have hNN : (20 : Int32).toNatClampNeg = 20 := by decide
  refine va_newa (atype := .int) (D := D) (cl := vwCl) (ty := .int) (N' := 20) (a0 := (20, .inl (fun _ => 0))) hx hb (hts (.arrayClass .int) (by decide +kernel)) rfl hK hP hD hS hA (fun cA => vp_cell_i cA 20 (fun _ => 0)) (by decide) hNN hby hce hsl dX1_init_23 (fun q23 k23 H hK hP hD hS => ?_)
  have hK : va_K D vwCl [(k7, .long), (k15, .long), (k23, .int)] s := hK
  have hP : va_P D vwCl [(h0, .inr (1, [.ref q7, .int 0, .ref q15, .null, .null, .null, .long 0, .long 0, .long 0, .int 0, .int 0, .int 0, .long 0])), (q7, .inl (k7, 40, .inr (.inl (fun _ => 0)))), (q15, .inl (k15, 20, .inr (.inl (fun _ => 0)))), (q23, .inl (k23, 20, .inl (fun _ => 0)))] H := hP
  have hD : va_D A [(h0, .inr (1, [.ref q7, .int 0, .ref q15, .null, .null, .null, .long 0, .long 0, .long 0, .int 0, .int 0, .int 0, .long 0])), (q7, .inl (k7, 40, .inr (.inl (fun _ => 0)))), (q15, .inl (k15, 20, .inr (.inl (fun _ => 0)))), (q23, .inl (k23, 20, .inl (fun _ => 0)))] := hD
  refine W.widen (k := 3) (n := 80) (by decide) (by decide) ?_
  refine va_putF (D := D) (ci := 1) (v := .ref q23) (ty := .array .int) (C := RX1) (T := TX1) (N := 13) hx hb hts (fun _ h => List.mem_cons_of_mem _ (List.mem_append_right _ h)) tyX1 tyX1_ok nmX1 hown hK hP hD hS 0 rfl rfl 3 (by decide) (hts (.fieldLink RX1 16 "PostDesk2Model" "failure" "[I") (by decide +kernel)) (fun _ h9 => h9) rfl hin rfl (by decide +kernel) rfl rfl (Nat.le_of_ble_eq_true rfl) dX1_init_25 (fun H locs hP hD hS => ?_)
  have hP : va_P D vwCl [(h0, .inr (1, [.ref q7, .int 0, .ref q15, .ref q23, .null, .null, .long 0, .long 0, .long 0, .int 0, .int 0, .int 0, .long 0])), (q7, .inl (k7, 40, .inr (.inl (fun _ => 0)))), (q15, .inl (k15, 20, .inr (.inl (fun _ => 0)))), (q23, .inl (k23, 20, .inl (fun _ => 0)))] H := hP
  have hD : va_D A [(h0, .inr (1, [.ref q7, .int 0, .ref q15, .ref q23, .null, .null, .long 0, .long 0, .long 0, .int 0, .int 0, .int 0, .long 0])), (q7, .inl (k7, 40, .inr (.inl (fun _ => 0)))), (q15, .inl (k15, 20, .inr (.inl (fun _ => 0)))), (q23, .inl (k23, 20, .inl (fun _ => 0)))] := hD
  refine lv_aload_n hx hb dX1_init_28 rfl (lv_at hl 0 rfl) ?_
  refine lv_bipush (v := 10) hx hb dX1_init_29 (by decide) ?_
  have hby : 10 * componentBytes .int ≤ 536870912 := by decide +kernel
  have hce : 3 + 1 ≤ 5 := by decide
  have hsl : 80 + 10 ≤ 1090 := by decide
  have hNN : (10 : Int32).toNatClampNeg = 10 := by decide
  refine va_newa (atype := .int) (D := D) (cl := vwCl) (ty := .int) (N' := 10) (a0 := (10, .inl (fun _ => 0))) hx hb (hts (.arrayClass .int) (by decide +kernel)) rfl hK hP hD hS hA (fun cA => vp_cell_i cA 10 (fun _ => 0)) (by decide) hNN hby hce hsl dX1_init_31 (fun q31 k31 H hK hP hD hS => ?_)
  have hK : va_K D vwCl [(k7, .long), (k15, .long), (k23, .int), (k31, .int)] s := hK
  have hP : va_P D vwCl [(h0, .inr (1, [.ref q7, .int 0, .ref q15, .ref q23, .null, .null, .long 0, .long 0, .long 0, .int 0, .int 0, .int 0, .long 0])), (q7, .inl (k7, 40, .inr (.inl (fun _ => 0)))), (q15, .inl (k15, 20, .inr (.inl (fun _ => 0)))), (q23, .inl (k23, 20, .inl (fun _ => 0))), (q31, .inl (k31, 10, .inl (fun _ => 0)))] H := hP
  have hD : va_D A [(h0, .inr (1, [.ref q7, .int 0, .ref q15, .ref q23, .null, .null, .long 0, .long 0, .long 0, .int 0, .int 0, .int 0, .long 0])), (q7, .inl (k7, 40, .inr (.inl (fun _ => 0)))), (q15, .inl (k15, 20, .inr (.inl (fun _ => 0)))), (q23, .inl (k23, 20, .inl (fun _ => 0))), (q31, .inl (k31, 10, .inl (fun _ => 0)))] := hD
  refine W.widen (k := 4) (n := 90) (by decide) (by decide) ?_
  refine va_putF (D := D) (ci := 1) (v := .ref q31) (ty := .array .int) (C := RX1) (T := TX1) (N := 13) hx hb hts (fun _ h => List.mem_cons_of_mem _ (List.mem_append_right _ h)) tyX1 tyX1_ok nmX1 hown hK hP hD hS 0 rfl rfl 4 (by decide) (hts (.fieldLink RX1 20 "PostDesk2Model" "made" "[I") (by decide +kernel)) (fun _ h9 => h9) rfl hin rfl (by decide +kernel) rfl rfl (Nat.le_of_ble_eq_true rfl) dX1_init_33 (fun H locs hP hD hS => ?_)
  have hP : va_P D vwCl [(h0, .inr (1, [.ref q7, .int 0, .ref q15, .ref q23, .ref q31, .null, .long 0, .long 0, .long 0, .int 0, .int 0, .int 0, .long 0])), (q7, .inl (k7, 40, .inr (.inl (fun _ => 0)))), (q15, .inl (k15, 20, .inr (.inl (fun _ => 0)))), (q23, .inl (k23, 20, .inl (fun _ => 0))), (q31, .inl (k31, 10, .inl (fun _ => 0)))] H := hP
  have hD : va_D A [(h0, .inr (1, [.ref q7, .int 0, .ref q15, .ref q23, .ref q31, .null, .long 0, .long 0, .long 0, .int 0, .int 0, .int 0, .long 0])), (q7, .inl (k7, 40, .inr (.inl (fun _ => 0)))), (q15, .inl (k15, 20, .inr (.inl (fun _ => 0)))), (q23, .inl (k23, 20, .inl (fun _ => 0))), (q31, .inl (k31, 10, .inl (fun _ => 0)))] := hD
  refine lv_aload_n hx hb dX1_init_36 rfl (lv_at hl 0 rfl) ?_
  refine lv_sipush (v := 1000) hx hb dX1_init_37 (by decide) ?_
  have hby : 1000 * componentBytes .boolean ≤ 536870912 := by decide +kernel
  have hce : 4 + 1 ≤ 5 := by decide
  have hsl : 90 + 1000 ≤ 1090 := by decide
  have hNN : (1000 : Int32).toNatClampNeg = 1000 := by decide
  refine va_newa (atype := .boolean) (D := D) (cl := vwCl) (ty := .boolean) (N' := 1000) (a0 := (1000, .inl (fun _ => 0))) hx hb (hts (.arrayClass .boolean) (by decide +kernel)) rfl hK hP hD hS hA (fun cA => vp_cell_i cA 1000 (fun _ => 0)) (by decide) hNN hby hce hsl dX1_init_40 (fun q40 k40 H hK hP hD hS => ?_)
  have hK : va_K D vwCl [(k7, .long), (k15, .long), (k23, .int), (k31, .int), (k40, .boolean)] s := hK
  have hP : va_P D vwCl [(h0, .inr (1, [.ref q7, .int 0, .ref q15, .ref q23, .ref q31, .null, .long 0, .long 0, .long 0, .int 0, .int 0, .int 0, .long 0])), (q7, .inl (k7, 40, .inr (.inl (fun _ => 0)))), (q15, .inl (k15, 20, .inr (.inl (fun _ => 0)))), (q23, .inl (k23, 20, .inl (fun _ => 0))), (q31, .inl (k31, 10, .inl (fun _ => 0))), (q40, .inl (k40, 1000, .inl (fun _ => 0)))] H := hP
  have hD : va_D A [(h0, .inr (1, [.ref q7, .int 0, .ref q15, .ref q23, .ref q31, .null, .long 0, .long 0, .long 0, .int 0, .int 0, .int 0, .long 0])), (q7, .inl (k7, 40, .inr (.inl (fun _ => 0)))), (q15, .inl (k15, 20, .inr (.inl (fun _ => 0)))), (q23, .inl (k23, 20, .inl (fun _ => 0))), (q31, .inl (k31, 10, .inl (fun _ => 0))), (q40, .inl (k40, 1000, .inl (fun _ => 0)))] := hD
  refine W.widen (k := 5) (n := 1090) (by decide) (by decide) ?_
  refine va_putF (D := D) (ci := 1) (v := .ref q40) (ty := .array .boolean) (C := RX1) (T := TX1) (N := 13) hx hb hts (fun _ h => List.mem_cons_of_mem _ (List.mem_append_right _ h)) tyX1 tyX1_ok nmX1 hown hK hP hD hS 0 rfl rfl 5 (by decide) (hts (.fieldLink RX1 23 "PostDesk2Model" "there" "[Z") (by decide +kernel)) (fun _ h9 => h9) rfl hin rfl (by decide +kernel) rfl rfl (Nat.le_of_ble_eq_true rfl) dX1_init_42 (fun H locs hP hD hS => ?_)
  have hP : va_P D vwCl [(h0, .inr (1, [.ref q7, .int 0, .ref q15, .ref q23, .ref q31, .ref q40, .long 0, .long 0, .long 0, .int 0, .int 0, .int 0, .long 0])), (q7, .inl (k7, 40, .inr (.inl (fun _ => 0)))), (q15, .inl (k15, 20, .inr (.inl (fun _ => 0)))), (q23, .inl (k23, 20, .inl (fun _ => 0))), (q31, .inl (k31, 10, .inl (fun _ => 0))), (q40, .inl (k40, 1000, .inl (fun _ => 0)))] H := hP
  have hD : va_D A [(h0, .inr (1, [.ref q7, .int 0, .ref q15, .ref q23, .ref q31, .ref q40, .long 0, .long 0, .long 0, .int 0, .int 0, .int 0, .long 0])), (q7, .inl (k7, 40, .inr (.inl (fun _ => 0)))), (q15, .inl (k15, 20, .inr (.inl (fun _ => 0)))), (q23, .inl (k23, 20, .inl (fun _ => 0))), (q31, .inl (k31, 10, .inl (fun _ => 0))), (q40, .inl (k40, 1000, .inl (fun _ => 0)))] := hD
  refine lv_aload_n hx hb dX1_init_45 rfl (lv_at hl 0 rfl) ?_
  refine lv_ldc2 (v := 7) hx hb hown (hts (.constantLong RX1 27 7) (by decide +kernel)) dX1_init_46 ?_
  refine va_put (D := D) (ci := 1) (v := .long 7) (ty := .long) (C := RX1) (T := TX1) (N := 13) hx hb hts (fun _ h => List.mem_cons_of_mem _ (List.mem_append_right _ h)) tyX1 tyX1_ok nmX1 hown hK hP hD hS 0 rfl rfl 12 (by decide) (hts (.fieldLink RX1 29 "PostDesk2Model" "log" "J") (by decide +kernel)) (fun _ h9 => h9) rfl (by decide +kernel) rfl rfl (Nat.le_of_ble_eq_true rfl) dX1_init_49 (fun H locs hP hD hS => ?_)
  have hP : va_P D vwCl [(h0, .inr (1, [.ref q7, .int 0, .ref q15, .ref q23, .ref q31, .ref q40, .long 0, .long 0, .long 0, .int 0, .int 0, .int 0, .long 7])), (q7, .inl (k7, 40, .inr (.inl (fun _ => 0)))), (q15, .inl (k15, 20, .inr (.inl (fun _ => 0)))), (q23, .inl (k23, 20, .inl (fun _ => 0))), (q31, .inl (k31, 10, .inl (fun _ => 0))), (q40, .inl (k40, 1000, .inl (fun _ => 0)))] H := hP
  have hD : va_D A [(h0, .inr (1, [.ref q7, .int 0, .ref q15, .ref q23, .ref q31, .ref q40, .long 0, .long 0, .long 0, .int 0, .int 0, .int 0, .long 7])), (q7, .inl (k7, 40, .inr (.inl (fun _ => 0)))), (q15, .inl (k15, 20, .inr (.inl (fun _ => 0)))), (q23, .inl (k23, 20, .inl (fun _ => 0))), (q31, .inl (k31, 10, .inl (fun _ => 0))), (q40, .inl (k40, 1000, .inl (fun _ => 0)))] := hD
  exact W.vret hx hb hr (fun t ht hW => ⟨⟨y_new, rfl, rfl, (fun k => match k with | 0 => h0 | 1 => q7 | 2 => q15 | 3 => q23 | 4 => q31 | 5 => q40 | _ => 0), (fun k => match k with | 1 => k7 | 2 => k15 | 3 => k23 | 4 => k31 | 5 => k40 | _ => k7), rfl, by rw [ht]; exact hP, va_K.moved hW.alike hK, hD⟩, hS.F ht⟩) hS.2.2 dX1_init_52
end
section
/-- what goes with the reference's state: the digest of what is collected, the counts, and where nothing lies -/
def Inv (y0 : Nat → Int64) (y1 : Int32) (y3 y4 y5 x1 : Nat → Int32) (x6 : Int64) : Prop :=
  (∃ n, n ≤ 40 ∧ y1 = nI n ∧ x6 = dig y0 n) ∧
  (∀ k, k < 10 → ∃ n, n ≤ 99 ∧ y4 k = nI n ∧ y5 (100 * k) = 0 ∧ (∀ j, n < j → j ≤ 99 → y5 (100 * k + j) = 0) ∧ x1 k = nI (cnt y5 k 100)) ∧
  (∀ j, j < 20 → 0 ≤ y3 j)
/-- class and reference in states that go together -/
def Rel (u : XS) (w : YS) : Prop := ∃ (y0 : Nat → Int64) (y1 : Int32) (y2 : Nat → Int64) (y3 y4 y5 : Nat → Int32) (y6 y7 y8 : Int64) (y9 y10 y11 : Int32) (y12 : Int64) (x1 : Nat → Int32) (x6 : Int64),
  w = (y0, y1, y2, y3, y4, y5, y6, y7, y8, y9, y10, y11, y12) ∧ u = (y4, x1, y5, y2, y3, y1, x6, y6, y7, y8, y9, y10, y11, y12) ∧ Inv y0 y1 y3 y4 y5 x1 x6
theorem rel_new : Rel x_new y_new := by
  refine ⟨_, _, _, _, _, _, _, _, _, _, _, _, _, _, _, rfl, rfl, ⟨0, by decide, rfl, rfl⟩, fun k _ => ⟨0, by decide, rfl, rfl, fun _ _ _ => rfl, ?_⟩, fun _ _ => (by decide : (0 : Int32) ≤ 0)⟩
  have h : ∀ m, cnt (fun _ => 0) k m = 0 := by
    intro m
    induction m with
    | zero => rfl
    | succ m ih => simp only [cnt, ih, ↓reduceIte]
  rw [h]
  rfl
theorem rel_h2 {u : XS} {w : YS} (hR : Rel u w) : w.2.1 = nI (w.2.1).toNatClampNeg ∧ (w.2.1).toNatClampNeg ≤ 40 := by
  obtain ⟨y0, y1, y2, y3, y4, y5, y6, y7, y8, y9, y10, y11, y12, x1, x6, rfl, rfl, ⟨n, hn, e, -⟩, -⟩ := hR
  show y1 = nI (y1).toNatClampNeg ∧ (y1).toNatClampNeg ≤ 40
  rw [e, nI_clamp (by omega)]
  exact ⟨rfl, hn⟩
theorem rel_h1 {u : XS} {w : YS} (hR : Rel u w) : ∀ j, j < 10 → 0 ≤ w.2.2.2.2.1 j ∧ w.2.2.2.2.1 j ≤ 99 := by
  obtain ⟨y0, y1, y2, y3, y4, y5, y6, y7, y8, y9, y10, y11, y12, x1, x6, rfl, rfl, -, h, -⟩ := hR
  intro j hj
  obtain ⟨n, hn, e, -⟩ := h j hj
  show 0 ≤ y4 j ∧ y4 j ≤ 99
  rw [e]
  exact ⟨nI_pos' (by omega), nI_le (b := 99) hn (by decide)⟩
theorem rel_h0 {u : XS} {w : YS} (hR : Rel u w) : ∀ j, j < 10 → 0 ≤ u.1 j := by
  obtain ⟨y0, y1, y2, y3, y4, y5, y6, y7, y8, y9, y10, y11, y12, x1, x6, rfl, rfl, -, h, -⟩ := hR
  intro j hj
  obtain ⟨n, hn, e, -⟩ := h j hj
  show 0 ≤ y4 j
  rw [e]
  exact nI_pos' (by omega)
/-! counts and digests under a change -/
theorem cnt_out {f : Nat → Int32} {i k : Nat} {v : Int32} : ∀ {m : Nat}, (∀ j, j < m → 100 * k + j ≠ i) → cnt (upd f i v) k m = cnt f k m := by
  intro m
  induction m with
  | zero => intro _; rfl
  | succ m ih =>
    intro h
    have e : upd f i v (100 * k + m) = f (100 * k + m) := pk_un (h m (by omega))
    simp only [cnt]
    rw [ih (fun j hj => h j (by omega)), e]
theorem cnt_set {f : Nat → Int32} {k j : Nat} {v : Int32} (h0 : f (100 * k + j) = 0) (hv : ¬ v = 0) : ∀ {m : Nat}, j < m → cnt (upd f (100 * k + j) v) k m = cnt f k m + 1 := by
  intro m
  induction m with
  | zero => intro h; omega
  | succ m ih =>
    intro hj
    simp only [cnt]
    by_cases h : j = m
    · subst h
      have e1 : cnt (upd f (100 * k + j) v) k j = cnt f k j := cnt_out (fun i hi => by omega)
      have e2 : upd f (100 * k + j) v (100 * k + j) = v := pk_us
      rw [e1, e2, if_neg hv, if_pos h0]
    · have e2 : upd f (100 * k + j) v (100 * k + m) = f (100 * k + m) := pk_un (by omega)
      rw [ih (by omega), e2, Nat.add_right_comm]
theorem cnt_clr {f : Nat → Int32} {k j : Nat} (h0 : ¬ f (100 * k + j) = 0) : ∀ {m : Nat}, j < m → cnt (upd f (100 * k + j) 0) k m + 1 = cnt f k m := by
  intro m
  induction m with
  | zero => intro h; omega
  | succ m ih =>
    intro hj
    simp only [cnt]
    by_cases h : j = m
    · subst h
      have e1 : cnt (upd f (100 * k + j) 0) k j = cnt f k j := cnt_out (fun i hi => by omega)
      have e2 : upd f (100 * k + j) 0 (100 * k + j) = 0 := pk_us
      rw [e1, e2, if_pos rfl, if_neg h0, Nat.add_zero]
    · have e2 : upd f (100 * k + j) 0 (100 * k + m) = f (100 * k + m) := pk_un (by omega)
      rw [← ih (by omega), e2, Nat.add_right_comm]
theorem dig_out {f : Nat → Int64} {i : Nat} {v : Int64} : ∀ {n : Nat}, n ≤ i → dig (vp_updL f i v) n = dig f n := by
  intro n
  induction n with
  | zero => intro _; rfl
  | succ n ih =>
    intro h
    have e : vp_updL f i v n = f n := pk_uLn (by omega)
    simp only [dig]
    rw [ih (by omega), e]
/-! the class's ranges in the reference's words -/
theorem xcall_0 {c : Int32} (h : c < 0) : xf_isCall c = 0 := by simp only [xf_isCall, if_pos h]
theorem xcall_9 {c : Int32} (h0 : ¬ c < 0) (h : ¬ c ≤ 19) : xf_isCall c = 0 := by
  have : (20 : Int32) ≤ c := by
    rw [Int32.le_iff_toInt_le] at h ⊢
    have e1 : (19 : Int32).toInt = 19 := by decide
    have e2 : (20 : Int32).toInt = 20 := by decide
    omega
  simp only [xf_isCall, if_neg h0, if_pos this]
theorem xcall_1 {c : Int32} (h0 : ¬ c < 0) (h : c ≤ 19) : ¬ xf_isCall c = 0 := by
  have : ¬ (20 : Int32) ≤ c := by
    rw [Int32.le_iff_toInt_le] at h ⊢
    have e1 : (19 : Int32).toInt = 19 := by decide
    have e2 : (20 : Int32).toInt = 20 := by decide
    omega
  simp only [xf_isCall, if_neg h0, if_neg this]
  decide
theorem xkind_0 {c : Int32} (h : c < 0) : xf_isKind c = 0 := by simp only [xf_isKind, if_pos h]
theorem xkind_9 {c : Int32} (h0 : ¬ c < 0) (h : ¬ c ≤ 9) : xf_isKind c = 0 := by
  have : (10 : Int32) ≤ c := by
    rw [Int32.le_iff_toInt_le] at h ⊢
    have e1 : (9 : Int32).toInt = 9 := by decide
    have e2 : (10 : Int32).toInt = 10 := by decide
    omega
  simp only [xf_isKind, if_neg h0, if_pos this]
theorem xkind_1 {c : Int32} (h0 : ¬ c < 0) (h : c ≤ 9) : ¬ xf_isKind c = 0 := by
  have : ¬ (10 : Int32) ≤ c := by
    rw [Int32.le_iff_toInt_le] at h ⊢
    have e1 : (9 : Int32).toInt = 9 := by decide
    have e2 : (10 : Int32).toInt = 10 := by decide
    omega
  simp only [xf_isKind, if_neg h0, if_neg this]
  decide
theorem c_10 {c : Int32} (h : c ≤ 9) : c < 10 := by
  rw [Int32.le_iff_toInt_le] at h
  rw [Int32.lt_iff_toInt_lt]
  have e1 : (9 : Int32).toInt = 9 := by decide
  have e2 : (10 : Int32).toInt = 10 := by decide
  omega
theorem c_10n {c : Int32} (h : ¬ c ≤ 9) : ¬ c < 10 := by
  rw [Int32.le_iff_toInt_le] at h
  rw [Int32.lt_iff_toInt_lt]
  have e1 : (9 : Int32).toInt = 9 := by decide
  have e2 : (10 : Int32).toInt = 10 := by decide
  omega
theorem i_pos {x : Int32} (h0 : 0 ≤ x) (h : ¬ x = 0) : ¬ x ≤ 0 := by
  intro q
  rw [Int32.le_iff_toInt_le] at h0 q
  exact h (Int32.toInt_inj.mp (by omega))
/-- a number 1000 k + j, taken apart -/
theorem num_at {k j : Nat} (hk : k < 10) (hj : j ≤ 99) : nI (1000 * k + j) / 1000 = nI k ∧ nI (1000 * k + j) - nI (1000 * k + j) / 1000 * 1000 = nI j := by
  refine ⟨?_, ?_⟩
  · have := pk_div (a := 1000 * k + j) (d := 1000) (by omega) (by decide) (by decide)
    rw [show (1000 * k + j) / 1000 = k by omega] at this
    exact this
  · have := pk_rem (a := 1000 * k + j) (d := 1000) (by omega) (by decide) (by decide)
    rw [show (1000 * k + j) % 1000 = j by omega] at this
    exact this
/-- of a number that is one of a kind, the reference's isThere -/
theorem yth_at (w : YS) {k j : Nat} (hk : k < 10) (h1 : 1 ≤ j) (hj : j ≤ 99) : yf_isThere w (nI (1000 * k + j)) = if w.2.2.2.2.2.1 (100 * k + j) = 0 then 0 else 1 := by
  obtain ⟨y0, y1, y2, y3, y4, y5, y6, y7, y8, y9, y10, y11, y12⟩ := w
  obtain ⟨e1, e2⟩ := num_at hk hj
  have a0 : ¬ nI (1000 * k + j) ≤ 0 := nI_nle (by omega) (by omega)
  have a1 : ¬ (10000 : Int32) ≤ nI (1000 * k + j) := nI_ge (b := 10000) (by omega) (by decide)
  have a2 : ¬ (100 : Int32) ≤ nI j := nI_ge (b := 100) (by omega) (by decide)
  have a3 : (100 * nI k + nI j).toNatClampNeg = 100 * k + j := by
    rw [show (100 : Int32) = nI 100 from rfl, pk_mul, nI_add, nI_clamp (by omega)]
  simp only [yf_isThere, if_neg a0, if_neg a1]
  rw [e2, e1]
  simp only [if_neg a2, a3]
theorem there_eq {u : XS} {w : YS} (hR : Rel u w) (n : Int32) : xf_isThere u n = yf_isThere w n := by
  obtain ⟨y0, y1, y2, y3, y4, y5, y6, y7, y8, y9, y10, y11, y12, x1, x6, rfl, rfl, hI⟩ := hR
  by_cases hp : xf_placeOf n = (-1)
  · simp only [xf_isThere, if_pos hp]
    by_cases h0 : n ≤ 0
    · simp only [yf_isThere, if_pos h0]
    · by_cases h1 : (10000 : Int32) ≤ n
      · simp only [yf_isThere, if_neg h0, if_pos h1]
      · by_cases h2 : (100 : Int32) ≤ n - n / 1000 * 1000
        · simp only [yf_isThere, if_neg h0, if_neg h1, if_pos h2]
        · obtain ⟨a, ha0, ha1, e, e1, e2⟩ := yt_of h0 h1
          have h2' : a % 1000 < 100 := by
            rw [e1, show (100 : Int32) = nI 100 from rfl, nI_leI (by decide) (by omega)] at h2
            omega
          have hz : a % 1000 = 0 := by
            rw [e, xpl_eq (by omega)] at hp
            by_cases hc : a / 1000 < 10 ∧ 1 ≤ a % 1000 ∧ a % 1000 ≤ 99
            · rw [if_pos hc] at hp
              exact absurd hp (fun q => absurd (nI_pos' (n := a / 1000 * 100 + a % 1000) (by omega)) (by rw [q]; decide))
            · omega
          have hk : a / 1000 < 10 := by omega
          obtain ⟨-, -, -, z0, -⟩ := hI.2.1 (a / 1000) hk
          have a3 : (100 * nI (a / 1000) + nI (a % 1000)).toNatClampNeg = 100 * (a / 1000) := by
            rw [hz, show (100 : Int32) = nI 100 from rfl, pk_mul, nI_add, nI_clamp (by omega)]
            rfl
          simp only [yf_isThere, if_neg h0, if_neg h1, if_neg h2]
          rw [e1, e2, a3, if_pos z0]
  · obtain ⟨k, j, hk, h1, h9, e, ep⟩ := xpl_of hp
    have a3 : (nI (100 * k + j)).toNatClampNeg = 100 * k + j := nI_clamp (by omega)
    simp only [xf_isThere, if_neg hp]
    rw [ep, a3, e]
    exact (yth_at (y0, y1, y2, y3, y4, y5, y6, y7, y8, y9, y10, y11, y12) hk h1 h9).symm
end
section
theorem step_collect {u : XS} {w : YS} (hR : Rel u w) (v : Int64) : (xf_collect u v).1 = (yf_collect w v).1 ∧ Rel (xf_collect u v).2 (yf_collect w v).2 := by
  obtain ⟨y0, y1, y2, y3, y4, y5, y6, y7, y8, y9, y10, y11, y12, x1, x6, rfl, rfl, hI⟩ := hR
  obtain ⟨n, hn, e, e6⟩ := hI.1
  by_cases h : n = 40
  · have a1 : ¬ y1 < 40 := by rw [e, h]; decide
    have a2 : y1 = 40 := by rw [e, h]; rfl
    simp only [xf_collect, yf_collect, if_neg a1, if_pos a2]
    exact ⟨by trivial, _, _, _, _, _, _, _, _, _, _, _, _, _, _, _, rfl, rfl, hI⟩
  · have a1 : y1 < 40 := by rw [e]; exact nI_lt (b := 40) (by omega) (by decide)
    have a2 : ¬ y1 = 40 := by rw [e, show (40 : Int32) = nI 40 from rfl, nI_eq (by omega) (by decide)]; exact h
    simp only [xf_collect, yf_collect, if_pos a1, if_neg a2]
    refine ⟨by trivial, _, _, _, _, _, _, _, _, _, _, _, _, _, _, _, rfl, rfl, ⟨n + 1, by omega, by rw [e, nI_1], ?_⟩, hI.2⟩
    have ec : (y1).toNatClampNeg = n := by rw [e]; exact nI_clamp (by omega)
    rw [ec]
    simp only [dig]
    have e2 : vp_updL y0 n v n = v := pk_uLs
    rw [dig_out (Nat.le_refl n), e2, e6]
theorem step_answer {u : XS} {w : YS} (hR : Rel u w) (c : Int32) (v : Int64) : (xf_answer u c v).1 = (yf_answer w c v).1 ∧ Rel (xf_answer u c v).2 (yf_answer w c v).2 := by
  obtain ⟨y0, y1, y2, y3, y4, y5, y6, y7, y8, y9, y10, y11, y12, x1, x6, rfl, rfl, hI⟩ := hR
  by_cases h0 : c < 0
  · simp only [xf_answer, yf_answer, if_pos h0, if_pos (xcall_0 h0)]
    exact ⟨by trivial, _, _, _, _, _, _, _, _, _, _, _, _, _, _, _, rfl, rfl, hI⟩
  · by_cases h1 : c ≤ 19
    · simp only [xf_answer, yf_answer, if_neg h0, if_pos h1, if_neg (xcall_1 h0 h1)]
      refine ⟨by trivial, _, _, _, _, _, _, _, _, _, _, _, _, _, _, _, rfl, rfl, hI.1, hI.2.1, fun j hj => ?_⟩
      by_cases q : j = (c).toNatClampNeg
      · rw [q, pk_us]; decide
      · rw [pk_un q]; exact hI.2.2 j hj
    · simp only [xf_answer, yf_answer, if_neg h0, if_neg h1, if_pos (xcall_9 h0 h1)]
      exact ⟨by trivial, _, _, _, _, _, _, _, _, _, _, _, _, _, _, _, rfl, rfl, hI⟩
theorem step_fails {u : XS} {w : YS} (hR : Rel u w) (c k : Int32) : (xf_fails u c k).1 = (yf_fails w c k).1 ∧ Rel (xf_fails u c k).2 (yf_fails w c k).2 := by
  obtain ⟨y0, y1, y2, y3, y4, y5, y6, y7, y8, y9, y10, y11, y12, x1, x6, rfl, rfl, hI⟩ := hR
  by_cases h0 : c < 0
  · simp only [xf_fails, yf_fails, if_pos h0, if_pos (xcall_0 h0)]
    exact ⟨by trivial, _, _, _, _, _, _, _, _, _, _, _, _, _, _, _, rfl, rfl, hI⟩
  · by_cases h1 : c ≤ 19
    · have h1' : ¬ 19 < c := by
        rw [Int32.le_iff_toInt_le] at h1
        rw [Int32.lt_iff_toInt_lt]
        omega
      by_cases h2 : k < 0
      · simp only [xf_fails, yf_fails, if_neg h0, if_neg h1', if_neg (xcall_1 h0 h1), if_pos h2]
        exact ⟨by trivial, _, _, _, _, _, _, _, _, _, _, _, _, _, _, _, rfl, rfl, hI⟩
      · by_cases h3 : k ≤ 3
        · simp only [xf_fails, yf_fails, if_neg h0, if_neg h1', if_neg (xcall_1 h0 h1), if_neg h2, if_pos h3]
          refine ⟨by trivial, _, _, _, _, _, _, _, _, _, _, _, _, _, _, _, rfl, rfl, hI.1, hI.2.1, fun j hj => ?_⟩
          by_cases q : j = (c).toNatClampNeg
          · rw [q, pk_us, Int32.le_iff_toInt_le]
            rw [Int32.lt_iff_toInt_lt] at h2
            omega
          · rw [pk_un q]; exact hI.2.2 j hj
        · simp only [xf_fails, yf_fails, if_neg h0, if_neg h1', if_neg (xcall_1 h0 h1), if_neg h2, if_neg h3]
          exact ⟨by trivial, _, _, _, _, _, _, _, _, _, _, _, _, _, _, _, rfl, rfl, hI⟩
    · have h1' : 19 < c := by
        rw [Int32.le_iff_toInt_le] at h1
        rw [Int32.lt_iff_toInt_lt]
        omega
      simp only [xf_fails, yf_fails, if_neg h0, if_pos h1', if_pos (xcall_9 h0 h1)]
      exact ⟨by trivial, _, _, _, _, _, _, _, _, _, _, _, _, _, _, _, rfl, rfl, hI⟩
theorem step_make {u : XS} {w : YS} (hR : Rel u w) (c : Int32) : (xf_make u c).1 = (yf_make w c).1 ∧ Rel (xf_make u c).2 (yf_make w c).2 := by
  obtain ⟨y0, y1, y2, y3, y4, y5, y6, y7, y8, y9, y10, y11, y12, x1, x6, rfl, rfl, hI⟩ := hR
  by_cases h0 : c < 0
  · simp only [xf_make, yf_make, if_pos h0, if_pos (xkind_0 h0)]
    exact ⟨by trivial, _, _, _, _, _, _, _, _, _, _, _, _, _, _, _, rfl, rfl, hI⟩
  · by_cases h9 : c ≤ 9
    · have hk := xkind_1 h0 h9
      obtain ⟨K, hK, rfl⟩ := vp_in_of (yk_in h0 h9) (by decide)
      have eK : (nI K).toNatClampNeg = K := nI_clamp (by omega)
      obtain ⟨n, hn, e4, z0, zf, e1⟩ := hI.2.1 K hK
      by_cases h99 : n = 99
      · have a1 : ¬ y4 K < 99 := by rw [e4, h99]; decide
        have a2 : y4 K = 99 := by rw [e4, h99]; rfl
        simp only [xf_make, yf_make, if_neg h0, if_pos h9, if_neg hk, eK, if_neg a1, if_pos a2]
        exact ⟨by trivial, _, _, _, _, _, _, _, _, _, _, _, _, _, _, _, rfl, rfl, hI⟩
      · have a1 : y4 K < 99 := by rw [e4]; exact nI_lt (b := 99) (by omega) (by decide)
        have a2 : ¬ y4 K = 99 := by rw [e4, show (99 : Int32) = nI 99 from rfl, nI_eq (by omega) (by decide)]; exact h99
        have ix : (nI K * 100 + (y4 K + 1)).toNatClampNeg = 100 * K + (n + 1) := by
          rw [e4, nI_1, show (100 : Int32) = nI 100 from rfl, pk_mul, nI_add, nI_clamp (by omega)]
          omega
        have ix1 : 100 * nI K = nI K * 100 := Int32.mul_comm _ _
        have ix2 : 1000 * nI K = nI K * 1000 := Int32.mul_comm _ _
        have nb : vp_nar .boolean 1 = 1 := by decide
        simp only [xf_make, yf_make, if_neg h0, if_pos h9, if_neg hk, eK, if_pos a1, if_neg a2, pk_us, ix1, ix2, ix, nb]
        refine ⟨by trivial, _, _, _, _, _, _, _, _, _, _, _, _, _, _, _, rfl, rfl, hI.1, fun k hk => ?_, hI.2.2⟩
        by_cases q : k = K
        · subst q
          refine ⟨n + 1, by omega, by rw [pk_us, e4, nI_1], ?_, fun j h1 h2 => ?_, ?_⟩
          · have t : upd y5 (100 * k + (n + 1)) 1 (100 * k) = y5 (100 * k) := pk_un (by omega)
            rw [t]; exact z0
          · have t : upd y5 (100 * k + (n + 1)) 1 (100 * k + j) = y5 (100 * k + j) := pk_un (by omega)
            rw [t]; exact zf j (by omega) h2
          · have t := cnt_set (f := y5) (k := k) (j := n + 1) (v := 1) (zf (n + 1) (by omega) (by omega)) (by decide) (m := 100) (by omega)
            rw [pk_us, e1, t, nI_1]
        · obtain ⟨n', hn', e4', z0', zf', e1'⟩ := hI.2.1 k hk
          refine ⟨n', hn', by rw [pk_un q]; exact e4', ?_, fun j h1 h2 => ?_, ?_⟩
          · have t : upd y5 (100 * K + (n + 1)) 1 (100 * k) = y5 (100 * k) := pk_un (by omega)
            rw [t]; exact z0'
          · have t : upd y5 (100 * K + (n + 1)) 1 (100 * k + j) = y5 (100 * k + j) := pk_un (by omega)
            rw [t]; exact zf' j h1 h2
          · have t : cnt (upd y5 (100 * K + (n + 1)) 1) k 100 = cnt y5 k 100 := cnt_out (fun j hj => by omega)
            rw [pk_un q, e1', t]
    · simp only [xf_make, yf_make, if_neg h0, if_neg h9, if_pos (xkind_9 h0 h9)]
      exact ⟨by trivial, _, _, _, _, _, _, _, _, _, _, _, _, _, _, _, rfl, rfl, hI⟩
theorem step_drop {u : XS} {w : YS} (hR : Rel u w) (n : Int32) : (xf_drop u n).1 = (yf_drop w n).1 ∧ Rel (xf_drop u n).2 (yf_drop w n).2 := by
  have ht := there_eq hR n
  obtain ⟨y0, y1, y2, y3, y4, y5, y6, y7, y8, y9, y10, y11, y12, x1, x6, rfl, rfl, hI⟩ := hR
  by_cases hp : xf_placeOf n = (-1)
  · simp only [xf_isThere, if_pos hp] at ht
    simp only [xf_drop, yf_drop, if_pos hp, if_pos ht.symm]
    exact ⟨ht, _, _, _, _, _, _, _, _, _, _, _, _, _, _, _, rfl, rfl, hI⟩
  · by_cases hz : y5 (xf_placeOf n).toNatClampNeg = 0
    · simp only [xf_isThere, if_neg hp, if_pos hz] at ht
      simp only [xf_drop, yf_drop, if_neg hp, if_pos hz, if_pos ht.symm]
      exact ⟨ht, _, _, _, _, _, _, _, _, _, _, _, _, _, _, _, rfl, rfl, hI⟩
    · simp only [xf_isThere, if_neg hp, if_neg hz] at ht
      have hy : ¬ yf_isThere (y0, y1, y2, y3, y4, y5, y6, y7, y8, y9, y10, y11, y12) n = 0 := by rw [← ht]; decide
      obtain ⟨K, j, hK, h1, h9, e, ep⟩ := xpl_of hp
      obtain ⟨n1, n2⟩ := num_at hK h9
      rw [← e] at n1 n2
      have eK : (nI K).toNatClampNeg = K := nI_clamp (by omega)
      have ej : (nI (100 * K + j)).toNatClampNeg = 100 * K + j := nI_clamp (by omega)
      have ix : (100 * nI K + nI j).toNatClampNeg = 100 * K + j := by
        rw [show (100 : Int32) = nI 100 from rfl, pk_mul, nI_add, nI_clamp (by omega)]
      have nb : vp_nar .boolean 0 = 0 := by decide
      rw [ep, ej] at hz
      have hz2 : ¬ y5 (xf_placeOf n).toNatClampNeg = 0 := by rw [ep, ej]; exact hz
      simp only [xf_drop, yf_drop, if_neg hp, if_neg hz2, if_neg hy]
      rw [n2, n1, ep]
      simp only [eK, ej, ix, nb]
      refine ⟨ht, _, _, _, _, _, _, _, _, _, _, _, _, _, _, _, rfl, rfl, hI.1, fun k hk => ?_, hI.2.2⟩
      obtain ⟨m, hm, e4, z0, zf, e1⟩ := hI.2.1 k hk
      by_cases q : k = K
      · subst q
        refine ⟨m, hm, e4, ?_, fun i i1 i2 => ?_, ?_⟩
        · have t : upd y5 (100 * k + j) 0 (100 * k) = y5 (100 * k) := pk_un (by omega)
          rw [t]; exact z0
        · by_cases i3 : i = j
          · subst i3; exact pk_us
          · have t : upd y5 (100 * k + j) 0 (100 * k + i) = y5 (100 * k + i) := pk_un (by omega)
            rw [t]; exact zf i i1 i2
        · have t := cnt_clr (f := y5) (k := k) (j := j) hz (m := 100) (by omega)
          rw [pk_us, e1, ← t, nI_pred]
      · refine ⟨m, hm, e4, ?_, fun i i1 i2 => ?_, ?_⟩
        · have t : upd y5 (100 * K + j) 0 (100 * k) = y5 (100 * k) := pk_un (by omega)
          rw [t]; exact z0
        · have t : upd y5 (100 * K + j) 0 (100 * k + i) = y5 (100 * k + i) := pk_un (by omega)
          rw [t]; exact zf i i1 i2
        · have t : cnt (upd y5 (100 * K + j) 0) k 100 = cnt y5 k 100 := cnt_out (fun i hi => by omega)
          rw [pk_un q, e1, t]
theorem step_told {u : XS} {w : YS} (hR : Rel u w) (a : Int32) : xf_told u a = yf_tell w a := by
  obtain ⟨y0, y1, y2, y3, y4, y5, y6, y7, y8, y9, y10, y11, y12, x1, x6, rfl, rfl, hI⟩ := hR
  simp only [xf_told, yf_tell]
theorem step_numbers {u : XS} {w : YS} (hR : Rel u w) (c : Int32) : xf_numbers u c = yf_numbers w c := by
  obtain ⟨y0, y1, y2, y3, y4, y5, y6, y7, y8, y9, y10, y11, y12, x1, x6, rfl, rfl, hI⟩ := hR
  by_cases h0 : c < 0
  · simp only [xf_numbers, yf_numbers, if_pos h0, if_pos (xkind_0 h0)]
  · by_cases h9 : c ≤ 9
    · simp only [xf_numbers, yf_numbers, if_neg h0, if_pos h9, if_neg (xkind_1 h0 h9)]
      obtain ⟨m, hm, e4, z0, zf, e1⟩ := hI.2.1 (c).toNatClampNeg (yk_lt h0 h9)
      exact e1
    · simp only [xf_numbers, yf_numbers, if_neg h0, if_neg h9, if_pos (xkind_9 h0 h9)]
/-! calls -/
theorem lc12 : ¬ lg_cmp (-9000000000000000012) 0 = 0 := by decide
theorem lc11 : ¬ lg_cmp (-9000000000000000011) 0 = 0 := by decide
theorem lc13 : ¬ lg_cmp (-9000000000000000013) 0 = 0 := by decide
theorem lc12s : lg_cmp (-9000000000000000012) (-9000000000000000012) = 0 := by decide
theorem lc11s : ¬ lg_cmp (-9000000000000000011) (-9000000000000000012) = 0 := by decide
theorem lc13s : ¬ lg_cmp (-9000000000000000013) (-9000000000000000012) = 0 := by decide
theorem lc0s : ¬ lg_cmp 0 (-9000000000000000012) = 0 := by decide
theorem lc00 : lg_cmp 0 0 = 0 := by decide
/-- which way a call goes, on both sides -/
theorem ways {u : XS} {w : YS} (hR : Rel u w) (c n : Int32) :
    (yf_way w c n = 1 ∧ xf_refusalOf u c n = (-9000000000000000012)) ∨ (yf_way w c n = 2 ∧ xf_refusalOf u c n = (-9000000000000000011)) ∨ (yf_way w c n = 3 ∧ xf_refusalOf u c n = (-9000000000000000013)) ∨
    (yf_way w c n = 4 ∧ xf_refusalOf u c n = 0 ∧ ¬ w.2.2.2.1 (c).toNatClampNeg = 0) ∨ (yf_way w c n = 0 ∧ xf_refusalOf u c n = 0 ∧ w.2.2.2.1 (c).toNatClampNeg = 0) := by
  have ht := there_eq hR n
  obtain ⟨y0, y1, y2, y3, y4, y5, y6, y7, y8, y9, y10, y11, y12, x1, x6, rfl, rfl, hI⟩ := hR
  by_cases h0 : c < 0
  · exact Or.inl ⟨by simp only [yf_way, if_pos h0], by simp only [xf_refusalOf, if_pos (xcall_0 h0)]⟩
  · by_cases h19 : c ≤ 19
    · have hc := xcall_1 h0 h19
      by_cases hz : yf_isThere (y0, y1, y2, y3, y4, y5, y6, y7, y8, y9, y10, y11, y12) n = 0
      · exact Or.inr (Or.inl ⟨by simp only [yf_way, if_neg h0, if_pos h19, if_pos hz], by simp only [xf_refusalOf, if_neg hc, if_pos (ht.trans hz)]⟩)
      · have hz' : ¬ xf_isThere (y4, x1, y5, y2, y3, y1, x6, y6, y7, y8, y9, y10, y11, y12) n = 0 := by rw [ht]; exact hz
        by_cases hk : n / 1000 = c - c / 10 * 10
        · have hcl : (c).toNatClampNeg < 20 := by
            obtain ⟨j, hj, rfl⟩ := vp_in_of (yc_in h0 h19) (by decide)
            rw [nI_clamp (by omega)]; exact hj
          have hp := hI.2.2 _ hcl
          by_cases h9 : c ≤ 9
          · by_cases hf : y3 (c).toNatClampNeg = 0
            · have hf' : y3 (c).toNatClampNeg ≤ 0 := by rw [hf]; decide
              exact Or.inr (Or.inr (Or.inr (Or.inr ⟨by simp only [yf_way, if_neg h0, if_pos h19, if_neg hz, if_pos hk, if_pos h9, if_pos hf'], by simp only [xf_refusalOf, if_neg hc, if_neg hz', if_pos hk, if_pos (c_10 h9)], hf⟩)))
            · exact Or.inr (Or.inr (Or.inr (Or.inl ⟨by simp only [yf_way, if_neg h0, if_pos h19, if_neg hz, if_pos hk, if_pos h9, if_neg (i_pos hp hf)], by simp only [xf_refusalOf, if_neg hc, if_neg hz', if_pos hk, if_pos (c_10 h9)], hf⟩)))
          · by_cases hm : y1 = 0
            · exact Or.inr (Or.inr (Or.inl ⟨by simp only [yf_way, if_neg h0, if_pos h19, if_neg hz, if_pos hk, if_neg h9, if_pos hm], by simp only [xf_refusalOf, if_neg hc, if_neg hz', if_pos hk, if_neg (c_10n h9), if_pos hm]⟩))
            · by_cases hf : y3 (c).toNatClampNeg = 0
              · have hf' : y3 (c).toNatClampNeg ≤ 0 := by rw [hf]; decide
                exact Or.inr (Or.inr (Or.inr (Or.inr ⟨by simp only [yf_way, if_neg h0, if_pos h19, if_neg hz, if_pos hk, if_neg h9, if_neg hm, if_pos hf'], by simp only [xf_refusalOf, if_neg hc, if_neg hz', if_pos hk, if_neg (c_10n h9), if_neg hm], hf⟩)))
              · exact Or.inr (Or.inr (Or.inr (Or.inl ⟨by simp only [yf_way, if_neg h0, if_pos h19, if_neg hz, if_pos hk, if_neg h9, if_neg hm, if_neg (i_pos hp hf)], by simp only [xf_refusalOf, if_neg hc, if_neg hz', if_pos hk, if_neg (c_10n h9), if_neg hm], hf⟩)))
        · exact Or.inr (Or.inl ⟨by simp only [yf_way, if_neg h0, if_pos h19, if_neg hz, if_neg hk], by simp only [xf_refusalOf, if_neg hc, if_neg hz', if_neg hk]⟩)
    · exact Or.inl ⟨by simp only [yf_way, if_neg h0, if_neg h19], by simp only [xf_refusalOf, if_pos (xcall_9 h0 h19)]⟩
theorem t1a : ¬ (1 : Int32) ≤ 0 := by decide
theorem t2a : ¬ (2 : Int32) ≤ 0 := by decide
theorem t3a : ¬ (3 : Int32) ≤ 0 := by decide
theorem t4a : ¬ (4 : Int32) ≤ 0 := by decide
theorem t0a : (0 : Int32) ≤ 0 := by decide
theorem t21 : ¬ (2 : Int32) = 1 := by decide
theorem t31 : ¬ (3 : Int32) = 1 := by decide
theorem t32 : ¬ (3 : Int32) = 2 := by decide
theorem t41 : ¬ (4 : Int32) = 1 := by decide
theorem t42 : ¬ (4 : Int32) = 2 := by decide
theorem t43 : ¬ (4 : Int32) = 3 := by decide
theorem t01 : ¬ (0 : Int32) = 1 := by decide
theorem t10 : ¬ (1 : Int32) = 0 := by decide
theorem t20 : ¬ (2 : Int32) = 0 := by decide
theorem t30 : ¬ (3 : Int32) = 0 := by decide
theorem t40 : ¬ (4 : Int32) = 0 := by decide
theorem t14 : ¬ (1 : Int32) = 4 := by decide
theorem t24 : ¬ (2 : Int32) = 4 := by decide
theorem t34 : ¬ (3 : Int32) = 4 := by decide
theorem t1b : (1 : Int32) ≤ 1 := by decide
theorem t2b : ¬ (2 : Int32) ≤ 1 := by decide
theorem t3b : ¬ (3 : Int32) ≤ 1 := by decide
/-- the digest that the class keeps is the reference's -/
theorem dig_y {y0 : Nat → Int64} {y1 : Int32} {y3 y4 y5 x1 : Nat → Int32} {x6 : Int64} (hI : Inv y0 y1 y3 y4 y5 x1 x6) : dig y0 (y1).toNatClampNeg = x6 := by
  obtain ⟨⟨n, hn, e, e6⟩, -⟩ := hI
  rw [e, nI_clamp (by omega), e6]
theorem step_again {u : XS} {w : YS} (hR : Rel u w) (c n : Int32) (a : Int64) : xf_again u c n a = yf_again w c n a := by
  have hW := ways hR c n
  obtain ⟨y0, y1, y2, y3, y4, y5, y6, y7, y8, y9, y10, y11, y12, x1, x6, rfl, rfl, hI⟩ := hR
  have hd := dig_y hI
  rcases hW with ⟨h1, h2⟩ | ⟨h1, h2⟩ | ⟨h1, h2⟩ | ⟨h1, h2, h3⟩ | ⟨h1, h2, h3⟩
  · simp only [xf_again, yf_again, h1, h2, xf_replyTo, yf_told, if_neg lc12, if_neg t1a, ↓reduceIte]
  · simp only [xf_again, yf_again, h1, h2, xf_replyTo, yf_told, if_neg lc11, if_neg t2a, if_neg t21, ↓reduceIte]
  · simp only [xf_again, yf_again, h1, h2, xf_replyTo, yf_told, if_neg lc13, if_neg t3a, if_neg t31, if_neg t32, ↓reduceIte]
  · have h3 : ¬ y3 (c).toNatClampNeg = 0 := h3
    simp only [xf_again, yf_again, h1, h2, xf_replyTo, yf_told, if_pos lc00, if_neg h3, if_neg t4a, if_neg t41, if_neg t42, if_neg t43]
  · have h3 : y3 (c).toNatClampNeg = 0 := h3
    simp only [xf_again, yf_again, h1, h2, xf_replyTo, yf_told, if_pos lc00, if_pos h3, if_pos t0a, hd]
theorem step_log {u : XS} {w : YS} (hR : Rel u w) (c n : Int32) (a : Int64) : xf_log u c n a = yf_log w c n a := by
  have hW := ways hR c n
  obtain ⟨y0, y1, y2, y3, y4, y5, y6, y7, y8, y9, y10, y11, y12, x1, x6, rfl, rfl, hI⟩ := hR
  have hd := dig_y hI
  rcases hW with ⟨h1, h2⟩ | ⟨h1, h2⟩ | ⟨h1, h2⟩ | ⟨h1, h2, h3⟩ | ⟨h1, h2, h3⟩
  · simp only [xf_log, yf_log, h1, h2, xf_replyTo, yf_told, xf_logBehind, yf_logBehind, if_pos lc12s, ↓reduceIte]
  · simp only [xf_log, yf_log, h1, h2, xf_replyTo, yf_told, xf_logBehind, yf_logBehind, if_neg lc11s, if_neg lc11, if_neg t2a, if_neg t21, if_neg t20, if_neg t24]
  · simp only [xf_log, yf_log, h1, h2, xf_replyTo, yf_told, xf_logBehind, yf_logBehind, if_neg lc13s, if_neg lc13, if_neg t3a, if_neg t31, if_neg t30, if_neg t34]
  · have h3 : ¬ y3 (c).toNatClampNeg = 0 := h3
    simp only [xf_log, yf_log, h1, h2, xf_replyTo, yf_told, xf_logBehind, yf_logBehind, if_neg lc0s, if_pos lc00, if_neg h3, if_neg t4a, if_neg t41, if_neg t40, ↓reduceIte]
  · have h3 : y3 (c).toNatClampNeg = 0 := h3
    simp only [xf_log, yf_log, h1, h2, xf_replyTo, yf_told, xf_logBehind, yf_logBehind, if_neg lc0s, if_pos lc00, if_pos h3, if_pos t0a, if_neg t01, hd, ↓reduceIte]
theorem step_call {u : XS} {w : YS} (hR : Rel u w) (c n : Int32) (a : Int64) : (xf_call u c n a).1 = (yf_call w c n a).1 ∧ Rel (xf_call u c n a).2 (yf_call w c n a).2 := by
  have hW := ways hR c n
  obtain ⟨y0, y1, y2, y3, y4, y5, y6, y7, y8, y9, y10, y11, y12, x1, x6, rfl, rfl, hI⟩ := hR
  have hd := dig_y hI
  rcases hW with ⟨h1, h2⟩ | ⟨h1, h2⟩ | ⟨h1, h2⟩ | ⟨h1, h2, h3⟩ | ⟨h1, h2, h3⟩
  · simp only [xf_call, yf_call, h1, h2, yf_told, yf_logBehind, if_pos lc12s, if_neg t1a, if_neg t10, if_neg t14, if_pos t1b, ↓reduceIte]
    exact ⟨by trivial, _, _, _, _, _, _, _, _, _, _, _, _, _, _, _, rfl, rfl, hI⟩
  · simp only [xf_call, yf_call, h1, h2, xf_replyTo, yf_told, xf_logBehind, yf_logBehind, xf_settle, if_neg lc11s, if_neg lc11, if_neg t2a, if_neg t21, if_neg t20, if_neg t24, if_neg t2b, ↓reduceIte]
    exact ⟨by trivial, _, _, _, _, _, _, _, _, _, _, _, _, _, _, _, rfl, rfl, hI⟩
  · simp only [xf_call, yf_call, h1, h2, xf_replyTo, yf_told, xf_logBehind, yf_logBehind, xf_settle, if_neg lc13s, if_neg lc13, if_neg t3a, if_neg t31, if_neg t32, if_neg t30, if_neg t34, if_neg t3b, ↓reduceIte]
    exact ⟨by trivial, _, _, _, _, _, _, _, _, _, _, _, _, _, _, _, rfl, rfl, hI⟩
  · have h3 : ¬ y3 (c).toNatClampNeg = 0 := h3
    simp only [xf_call, yf_call, h1, h2, xf_replyTo, yf_told, xf_logBehind, yf_logBehind, xf_settle, if_neg lc0s, if_pos lc00, if_neg h3, if_neg t4a, if_neg t41, if_neg t42, if_neg t43, if_neg t40, ↓reduceIte]
    exact ⟨by trivial, _, _, _, _, _, _, _, _, _, _, _, _, _, _, _, rfl, rfl, hI⟩
  · have h3 : y3 (c).toNatClampNeg = 0 := h3
    simp only [xf_call, yf_call, h1, h2, xf_replyTo, yf_told, xf_logBehind, yf_logBehind, xf_settle, if_neg lc0s, if_pos lc00, if_pos h3, if_pos t0a, if_neg t01, hd, ↓reduceIte]
    exact ⟨by trivial, _, _, _, _, _, _, _, _, _, _, _, _, _, _, _, rfl, rfl, ⟨0, by decide, rfl, rfl⟩, hI.2⟩
end
section
/-! THE CLAIM OUT OF ONE WALK OF THE LAW'S BODY. Your part is whole_start (and what it stands on); all else here is the same for every law, but numbers. -/
def R_law : String := "PostDesk2Law"
def lw_P (b : Addr) (xs : List Int32) (args : Array Value) (s : State) : Prop := args = #[.ref b] ∧ s.IntsAt b xs ∧ xs.length ≤ 2560 ∧ (Jvm.Cond.and given_1 narrow_1).before args s = true
def lw_Q (_ : Array Value) (s : State) (o : Outcome) (t : State) : Prop := o = .returned (some (.int 1)) ∧ Framed s o t [] 12 2177
def lw_Z (below : List Frame) (a : Array Value) (s : State) : State → Prop := fun t => ∃ o, t.status = .running ∧ Ended t below o ∧ lw_Q a s o t
/-- the law's own end, with 1 on the stack, nothing written that was there before, its room as the claim has it -/
theorem lw_ret {p : Program} {l : Launch} {e : Env} {s : State} {m : MethodId} {below : List Frame} {meth : Method} {c : Code} {b : Nat} (hx : p.tables.exec = Jvm.exec) (hb : c.code = code) (hr : meth.sig.returnType = ret) (hlocks : meth.locks = false) {pc : Nat} {H : Heap} {ls : Array Slot} (hdg : decode code pc = .ok (.ireturn, 1)) : W p l e room_1 s m #[Value.ref b] below meth c H [] 12 2177 (lw_Z below #[Value.ref b] s) (F0 m pc ls [.int 1]) := by
  intro T hT X
  obtain ⟨fs, hret, hrun, hended, hW, hframe⟩ := X.leave (v := some (.int 1)) (hlocks := hlocks) (fun h => by rw [hr] at h; cases h)
  have hmeth' : T.vm.method? m = some meth := X.method'
  refine ⟨T.setFrames fs, ?_, .returned (some (.int 1)), hrun, hended, rfl, ⟨_, rfl⟩, hW, hframe⟩
  jvm_step X.here [X.here.top, hx, hb, hdg, hmeth', hr, ret, narrow_b1]
  (try refine ⟨rfl, ?_⟩); (try refine ⟨rfl, ?_⟩)
  first | (intro acts; rw [hret _ acts rfl rfl rfl]) | rw [hret _ _ rfl rfl rfl]
  exact Steps.refl _
/-- what holds at the law's entry: the machine, the code, the tables' words (any of lw_tbl by 'hts w (by decide +kernel)'), the script of L ints xs at the cell b, what the Statement gives of the start (any of its parts by flat_of_before) -/
def lw_At (p : Program) (s : State) (m : MethodId) (meth : Method) (c : Code) (b L : Nat) (xs : Nat → Int32) : Prop :=
  p.tables.exec = Jvm.exec ∧ c.code = code ∧ meth.sig.returnType = ret ∧ c.maxLocals = 4 ∧ s.vm.findClass R_law = some m.cls ∧ (∀ w ∈ lw_tbl, w.before #[Value.ref b] s = true) ∧ va_X b L xs s s.heap ∧ b < s.heap.size ∧ meth.locks = false ∧ (Jvm.Cond.and given_1 narrow_1).before #[Value.ref b] s = true
/-- from the law's pc on, with class and reference in any states that go together -/
abbrev lw_K (p : Program) (l : Launch) (e : Env) (s : State) (m : MethodId) (below : List Frame) (meth : Method) (c : Code) (D : va_G) (b : Nat) (ad bd : Nat → Nat) (cd ed : Nat → ClassId) (ls : Array Slot) (pc : Nat) : Prop :=
  ∀ (u : XS) (w : YS) (H : Heap) (locs : List Loc), Rel u w → va_P D vwCl (xw ad cd u ++ yw bd ed w) H → va_D (fun q : Nat => s.heap.size ≤ q) (xw ad cd u ++ yw bd ed w) → va_S (fun q : Nat => s.heap.size ≤ q) s.heap H locs → W p l e room_1 s m #[Value.ref b] below meth c H locs 12 2177 (lw_Z below #[Value.ref b] s) (F0 m pc ls [])
set_option maxHeartbeats 4000000 in
set_option maxRecDepth 100000 in
theorem law_0 {p : Program} {l : Launch} {e : Env} {s : State} {m : MethodId} {below : List Frame} {meth : Method} {c : Code} {D : va_G} {b L : Nat} {xs : Nat → Int32} (hL : L ≤ 2560) (C0 : lw_At p s m meth c b L xs) {ad bd : Nat → Nat} {cd ed : Nat → ClassId} (hK : va_K D vwCl (xt cd ++ yt ed) s) {i : Nat} (hi : i + 5 ≤ L) {ls : Array Slot} (hl : lv_has ls 4 [(0, .ref b), (1, .ref (ad 0)), (2, .ref (bd 0)), (3, .int (nI i))]) (kont : lw_K p l e s m below meth c D b ad bd cd ed ls 579) : lw_K p l e s m below meth c D b ad bd cd ed ls 92 := by
  obtain ⟨hx, hb, hr, hml, hown, hts0, hX, hbl, hlocks, hgv⟩ := C0
  have hts := fun w h => hts0 w (wsL_law_in w h)
  have hA : ∀ q : Nat, s.heap.size ≤ q → (fun q : Nat => s.heap.size ≤ q) q := fun _ h => h
  have hbA : ¬ (fun q : Nat => s.heap.size ≤ q) b := Nat.not_le.mpr hbl
  intro u w H locs hR hP hD hS
  refine lv_aload_n hx hb dL_law_92 rfl (lv_at hl 1 rfl) ?_
  refine lv_aload_n hx hb dL_law_93 rfl (lv_at hl 0 rfl) ?_
  refine lv_iload_n hx hb dL_law_94 rfl (lv_at hl 3 rfl) ?_
  refine lv_iconst (v := 1) hx hb dL_law_95 (by decide) ?_
  refine lv_iadd hx hb dL_law_96 ?_
  refine va_sld hx hb hX hbl hbA hS (sc_in 1 rfl (by omega) hL) dL_law_97 ?_
  refine lv_i2l hx hb dL_law_98 rfl ?_
  refine lv_bipush (v := 32) hx hb dL_law_99 (by decide) ?_
  refine lv_lshl hx hb dL_law_101 rfl ?_
  refine lv_aload_n hx hb dL_law_102 rfl (lv_at hl 0 rfl) ?_
  refine lv_iload_n hx hb dL_law_103 rfl (lv_at hl 3 rfl) ?_
  refine lv_iconst (v := 2) hx hb dL_law_104 (by decide) ?_
  refine lv_iadd hx hb dL_law_105 ?_
  refine va_sld hx hb hX hbl hbA hS (sc_in 2 rfl (by omega) hL) dL_law_106 ?_
  refine lv_i2l hx hb dL_law_107 rfl ?_
  refine lv_ldc2 (v := 4294967295) hx hb hown (hts0 (.constantLong RL 13 4294967295) (by decide +kernel)) dL_law_108 ?_
  refine lv_land hx hb dL_law_111 ?_
  refine lv_lor hx hb dL_law_112 ?_
  have hPc := hP.sub (ws' := xw ad cd u) [0, 1, 2, 3, 4, 5] rfl
  have hKc := hK.sub (tys' := xt cd) [0, 1, 2, 3, 4] rfl
  have hDc := hD.sub (ws' := xw ad cd u) [0, 1, 2, 3, 4, 5] (by decide) rfl
  have hFc := va_free (wc := xw ad cd u) hD hS hA [0, 1, 2, 3, 4, 5] rfl
  refine va_calli (va_runV (As := [.long (((xs (nI i + 1).toNatClampNeg).toInt64 <<< ((32 : Int32).toInt64 &&& 63)) ||| ((xs (nI i + 2).toNatClampNeg).toInt64 &&& 4294967295))]) (rest := []) ⟨hx, hb, hml, hown, hts⟩ (xk_collect l D ad cd u H.size (((xs (nI i + 1).toNatClampNeg).toInt64 <<< ((32 : Int32).toInt64 &&& 63)) ||| ((xs (nI i + 2).toNatClampNeg).toInt64 &&& 4294967295))) (cwV 1 hts gL_law_X0_collect rfl rfl rfl (by decide +kernel) ⟨Nat.le_of_ble_eq_true rfl, Nat.le_of_ble_eq_true rfl⟩) ⟨fun a U g mk q => ⟨q.1, q.2.1, q.2.2.1, va_K.moved (u := U) (U := U.calling g mk a) (Vm.Alike.refl U.vm) q.2.2.2.1, q.2.2.2.2⟩, va_recv hKc hPc (ci := 0) (q0 := 0) rfl rfl, fun U hU hW => ⟨rfl, by rw [hU], by rw [hU]; exact hPc, va_K.moved hW.alike hKc, hDc.weaken (fun _ _ _ _ => trivial)⟩⟩ rfl rfl hl.1 rfl (lv_room (Nat.le_of_ble_eq_true rfl)) dL_law_113 ⟨Nat.le_of_ble_eq_true rfl, Nat.le_of_ble_eq_true rfl⟩) hS (fun q _ h => hFc q h) hFc (fun rx u1 t H1 locs ht hvm hrx hB hz1 hk1 hS => ?_)
  obtain ⟨hP1, hK1, hD1⟩ := hB
  rw [ht] at hP1
  obtain ⟨hP, hD⟩ := va_join (wr := yw bd ed w) (w1 := xw ad cd u1) hP hD [0, 1, 2, 3, 4, 5] [6, 7, 8, 9, 10, 11] rfl rfl (by decide) (by decide) hk1 hFc hP1 hD1
  generalize H1 = H at hP hS ⊢
  have hP : va_P D vwCl (yw bd ed w ++ xw ad cd u1) H := hP
  have hD : va_D (fun q : Nat => s.heap.size ≤ q) (yw bd ed w ++ xw ad cd u1) := hD
  refine lv_aload_n hx hb dL_law_116 rfl (lv_at hl 2 rfl) ?_
  refine lv_aload_n hx hb dL_law_117 rfl (lv_at hl 0 rfl) ?_
  refine lv_iload_n hx hb dL_law_118 rfl (lv_at hl 3 rfl) ?_
  refine lv_iconst (v := 1) hx hb dL_law_119 (by decide) ?_
  refine lv_iadd hx hb dL_law_120 ?_
  refine va_sld hx hb hX hbl hbA hS (sc_in 1 rfl (by omega) hL) dL_law_121 ?_
  refine lv_i2l hx hb dL_law_122 rfl ?_
  refine lv_bipush (v := 32) hx hb dL_law_123 (by decide) ?_
  refine lv_lshl hx hb dL_law_125 rfl ?_
  refine lv_aload_n hx hb dL_law_126 rfl (lv_at hl 0 rfl) ?_
  refine lv_iload_n hx hb dL_law_127 rfl (lv_at hl 3 rfl) ?_
  refine lv_iconst (v := 2) hx hb dL_law_128 (by decide) ?_
  refine lv_iadd hx hb dL_law_129 ?_
  refine va_sld hx hb hX hbl hbA hS (sc_in 2 rfl (by omega) hL) dL_law_130 ?_
  refine lv_i2l hx hb dL_law_131 rfl ?_
  refine lv_ldc2 (v := 4294967295) hx hb hown (hts0 (.constantLong RL 13 4294967295) (by decide +kernel)) dL_law_132 ?_
  refine lv_land hx hb dL_law_135 ?_
  refine lv_lor hx hb dL_law_136 ?_
  have hPc := hP.sub (ws' := yw bd ed w) [0, 1, 2, 3, 4, 5] rfl
  have hKc := hK.sub (tys' := yt ed) [5, 6, 7, 8, 9] rfl
  have hDc := hD.sub (ws' := yw bd ed w) [0, 1, 2, 3, 4, 5] (by decide) rfl
  have hFc := va_free (wc := yw bd ed w) hD hS hA [0, 1, 2, 3, 4, 5] rfl
  refine va_calli (va_runV (As := [.long (((xs (nI i + 1).toNatClampNeg).toInt64 <<< ((32 : Int32).toInt64 &&& 63)) ||| ((xs (nI i + 2).toNatClampNeg).toInt64 &&& 4294967295))]) (rest := [.int rx]) ⟨hx, hb, hml, hown, hts⟩ (yk_collect l D bd ed w H.size (((xs (nI i + 1).toNatClampNeg).toInt64 <<< ((32 : Int32).toInt64 &&& 63)) ||| ((xs (nI i + 2).toNatClampNeg).toInt64 &&& 4294967295)) (rel_h2 hR)) (cwV 1 hts gL_law_X1_collect rfl rfl rfl (by decide +kernel) ⟨Nat.le_of_ble_eq_true rfl, Nat.le_of_ble_eq_true rfl⟩) ⟨fun a U g mk q => ⟨q.1, q.2.1, q.2.2.1, va_K.moved (u := U) (U := U.calling g mk a) (Vm.Alike.refl U.vm) q.2.2.2.1, q.2.2.2.2⟩, va_recv hKc hPc (ci := 1) (q0 := 0) rfl rfl, fun U hU hW => ⟨rfl, by rw [hU], by rw [hU]; exact hPc, va_K.moved hW.alike hKc, hDc.weaken (fun _ _ _ _ => trivial)⟩⟩ rfl rfl hl.1 rfl (lv_room (Nat.le_of_ble_eq_true rfl)) dL_law_137 ⟨Nat.le_of_ble_eq_true rfl, Nat.le_of_ble_eq_true rfl⟩) hS (fun q _ h => hFc q h) hFc (fun ry w1 t H1 locs ht hvm hry hB hz1 hk1 hS => ?_)
  obtain ⟨hP1, hK1, hD1⟩ := hB
  rw [ht] at hP1
  obtain ⟨hP, hD⟩ := va_join (wr := xw ad cd u1) (w1 := yw bd ed w1) hP hD [0, 1, 2, 3, 4, 5] [6, 7, 8, 9, 10, 11] rfl rfl (by decide) (by decide) hk1 hFc hP1 hD1
  generalize H1 = H at hP hS ⊢
  have hP : va_P D vwCl (xw ad cd u1 ++ yw bd ed w1) H := hP
  have hD : va_D (fun q : Nat => s.heap.size ≤ q) (xw ad cd u1 ++ yw bd ed w1) := hD
  have hst := step_collect hR (((xs (nI i + 1).toNatClampNeg).toInt64 <<< ((32 : Int32).toInt64 &&& 63)) ||| ((xs (nI i + 2).toNatClampNeg).toInt64 &&& 4294967295))
  rw [← hrx] at hst
  rw [← hry] at hst
  refine lv_icmp_eq (tgt := 579) hx hb dL_law_140 (by decide) (fun _ => kont u1 w1 H locs hst.2 hP hD hS) (fun c9 => absurd hst.1 c9)
set_option maxHeartbeats 4000000 in
set_option maxRecDepth 100000 in
theorem law_1 {p : Program} {l : Launch} {e : Env} {s : State} {m : MethodId} {below : List Frame} {meth : Method} {c : Code} {D : va_G} {b L : Nat} {xs : Nat → Int32} (hL : L ≤ 2560) (C0 : lw_At p s m meth c b L xs) {ad bd : Nat → Nat} {cd ed : Nat → ClassId} (hK : va_K D vwCl (xt cd ++ yt ed) s) {i : Nat} (hi : i + 5 ≤ L) {ls : Array Slot} (hl : lv_has ls 4 [(0, .ref b), (1, .ref (ad 0)), (2, .ref (bd 0)), (3, .int (nI i))]) (kont : lw_K p l e s m below meth c D b ad bd cd ed ls 579) : lw_K p l e s m below meth c D b ad bd cd ed ls 145 := by
  obtain ⟨hx, hb, hr, hml, hown, hts0, hX, hbl, hlocks, hgv⟩ := C0
  have hts := fun w h => hts0 w (wsL_law_in w h)
  have hA : ∀ q : Nat, s.heap.size ≤ q → (fun q : Nat => s.heap.size ≤ q) q := fun _ h => h
  have hbA : ¬ (fun q : Nat => s.heap.size ≤ q) b := Nat.not_le.mpr hbl
  intro u w H locs hR hP hD hS
  refine lv_aload_n hx hb dL_law_145 rfl (lv_at hl 1 rfl) ?_
  refine lv_aload_n hx hb dL_law_146 rfl (lv_at hl 0 rfl) ?_
  refine lv_iload_n hx hb dL_law_147 rfl (lv_at hl 3 rfl) ?_
  refine lv_iconst (v := 1) hx hb dL_law_148 (by decide) ?_
  refine lv_iadd hx hb dL_law_149 ?_
  refine va_sld hx hb hX hbl hbA hS (sc_in 1 rfl (by omega) hL) dL_law_150 ?_
  refine lv_aload_n hx hb dL_law_151 rfl (lv_at hl 0 rfl) ?_
  refine lv_iload_n hx hb dL_law_152 rfl (lv_at hl 3 rfl) ?_
  refine lv_iconst (v := 2) hx hb dL_law_153 (by decide) ?_
  refine lv_iadd hx hb dL_law_154 ?_
  refine va_sld hx hb hX hbl hbA hS (sc_in 2 rfl (by omega) hL) dL_law_155 ?_
  refine lv_i2l hx hb dL_law_156 rfl ?_
  refine lv_bipush (v := 32) hx hb dL_law_157 (by decide) ?_
  refine lv_lshl hx hb dL_law_159 rfl ?_
  refine lv_aload_n hx hb dL_law_160 rfl (lv_at hl 0 rfl) ?_
  refine lv_iload_n hx hb dL_law_161 rfl (lv_at hl 3 rfl) ?_
  refine lv_iconst (v := 3) hx hb dL_law_162 (by decide) ?_
  refine lv_iadd hx hb dL_law_163 ?_
  refine va_sld hx hb hX hbl hbA hS (sc_in 3 rfl (by omega) hL) dL_law_164 ?_
  refine lv_i2l hx hb dL_law_165 rfl ?_
  refine lv_ldc2 (v := 4294967295) hx hb hown (hts0 (.constantLong RL 13 4294967295) (by decide +kernel)) dL_law_166 ?_
  refine lv_land hx hb dL_law_169 ?_
  refine lv_lor hx hb dL_law_170 ?_
  have hPc := hP.sub (ws' := xw ad cd u) [0, 1, 2, 3, 4, 5] rfl
  have hKc := hK.sub (tys' := xt cd) [0, 1, 2, 3, 4] rfl
  have hDc := hD.sub (ws' := xw ad cd u) [0, 1, 2, 3, 4, 5] (by decide) rfl
  have hFc := va_free (wc := xw ad cd u) hD hS hA [0, 1, 2, 3, 4, 5] rfl
  refine va_calli (va_runV (As := [.int (xs (nI i + 1).toNatClampNeg), .long (((xs (nI i + 2).toNatClampNeg).toInt64 <<< ((32 : Int32).toInt64 &&& 63)) ||| ((xs (nI i + 3).toNatClampNeg).toInt64 &&& 4294967295))]) (rest := []) ⟨hx, hb, hml, hown, hts⟩ (xk_answer l D ad cd u H.size (xs (nI i + 1).toNatClampNeg) (((xs (nI i + 2).toNatClampNeg).toInt64 <<< ((32 : Int32).toInt64 &&& 63)) ||| ((xs (nI i + 3).toNatClampNeg).toInt64 &&& 4294967295))) (cwV 2 hts gL_law_X0_answer rfl rfl rfl (by decide +kernel) ⟨Nat.le_of_ble_eq_true rfl, Nat.le_of_ble_eq_true rfl⟩) ⟨fun a U g mk q => ⟨q.1, q.2.1, q.2.2.1, va_K.moved (u := U) (U := U.calling g mk a) (Vm.Alike.refl U.vm) q.2.2.2.1, q.2.2.2.2⟩, va_recv hKc hPc (ci := 0) (q0 := 0) rfl rfl, fun U hU hW => ⟨rfl, by rw [hU], by rw [hU]; exact hPc, va_K.moved hW.alike hKc, hDc.weaken (fun _ _ _ _ => trivial)⟩⟩ rfl rfl hl.1 rfl (lv_room (Nat.le_of_ble_eq_true rfl)) dL_law_171 ⟨Nat.le_of_ble_eq_true rfl, Nat.le_of_ble_eq_true rfl⟩) hS (fun q _ h => hFc q h) hFc (fun rx u1 t H1 locs ht hvm hrx hB hz1 hk1 hS => ?_)
  obtain ⟨hP1, hK1, hD1⟩ := hB
  rw [ht] at hP1
  obtain ⟨hP, hD⟩ := va_join (wr := yw bd ed w) (w1 := xw ad cd u1) hP hD [0, 1, 2, 3, 4, 5] [6, 7, 8, 9, 10, 11] rfl rfl (by decide) (by decide) hk1 hFc hP1 hD1
  generalize H1 = H at hP hS ⊢
  have hP : va_P D vwCl (yw bd ed w ++ xw ad cd u1) H := hP
  have hD : va_D (fun q : Nat => s.heap.size ≤ q) (yw bd ed w ++ xw ad cd u1) := hD
  refine lv_aload_n hx hb dL_law_174 rfl (lv_at hl 2 rfl) ?_
  refine lv_aload_n hx hb dL_law_175 rfl (lv_at hl 0 rfl) ?_
  refine lv_iload_n hx hb dL_law_176 rfl (lv_at hl 3 rfl) ?_
  refine lv_iconst (v := 1) hx hb dL_law_177 (by decide) ?_
  refine lv_iadd hx hb dL_law_178 ?_
  refine va_sld hx hb hX hbl hbA hS (sc_in 1 rfl (by omega) hL) dL_law_179 ?_
  refine lv_aload_n hx hb dL_law_180 rfl (lv_at hl 0 rfl) ?_
  refine lv_iload_n hx hb dL_law_181 rfl (lv_at hl 3 rfl) ?_
  refine lv_iconst (v := 2) hx hb dL_law_182 (by decide) ?_
  refine lv_iadd hx hb dL_law_183 ?_
  refine va_sld hx hb hX hbl hbA hS (sc_in 2 rfl (by omega) hL) dL_law_184 ?_
  refine lv_i2l hx hb dL_law_185 rfl ?_
  refine lv_bipush (v := 32) hx hb dL_law_186 (by decide) ?_
  refine lv_lshl hx hb dL_law_188 rfl ?_
  refine lv_aload_n hx hb dL_law_189 rfl (lv_at hl 0 rfl) ?_
  refine lv_iload_n hx hb dL_law_190 rfl (lv_at hl 3 rfl) ?_
  refine lv_iconst (v := 3) hx hb dL_law_191 (by decide) ?_
  refine lv_iadd hx hb dL_law_192 ?_
  refine va_sld hx hb hX hbl hbA hS (sc_in 3 rfl (by omega) hL) dL_law_193 ?_
  refine lv_i2l hx hb dL_law_194 rfl ?_
  refine lv_ldc2 (v := 4294967295) hx hb hown (hts0 (.constantLong RL 13 4294967295) (by decide +kernel)) dL_law_195 ?_
  refine lv_land hx hb dL_law_198 ?_
  refine lv_lor hx hb dL_law_199 ?_
  have hPc := hP.sub (ws' := yw bd ed w) [0, 1, 2, 3, 4, 5] rfl
  have hKc := hK.sub (tys' := yt ed) [5, 6, 7, 8, 9] rfl
  have hDc := hD.sub (ws' := yw bd ed w) [0, 1, 2, 3, 4, 5] (by decide) rfl
  have hFc := va_free (wc := yw bd ed w) hD hS hA [0, 1, 2, 3, 4, 5] rfl
  refine va_calli (va_runV (As := [.int (xs (nI i + 1).toNatClampNeg), .long (((xs (nI i + 2).toNatClampNeg).toInt64 <<< ((32 : Int32).toInt64 &&& 63)) ||| ((xs (nI i + 3).toNatClampNeg).toInt64 &&& 4294967295))]) (rest := [.int rx]) ⟨hx, hb, hml, hown, hts⟩ (yk_answer l D bd ed w H.size (xs (nI i + 1).toNatClampNeg) (((xs (nI i + 2).toNatClampNeg).toInt64 <<< ((32 : Int32).toInt64 &&& 63)) ||| ((xs (nI i + 3).toNatClampNeg).toInt64 &&& 4294967295))) (cwV 2 hts gL_law_X1_answer rfl rfl rfl (by decide +kernel) ⟨Nat.le_of_ble_eq_true rfl, Nat.le_of_ble_eq_true rfl⟩) ⟨fun a U g mk q => ⟨q.1, q.2.1, q.2.2.1, va_K.moved (u := U) (U := U.calling g mk a) (Vm.Alike.refl U.vm) q.2.2.2.1, q.2.2.2.2⟩, va_recv hKc hPc (ci := 1) (q0 := 0) rfl rfl, fun U hU hW => ⟨rfl, by rw [hU], by rw [hU]; exact hPc, va_K.moved hW.alike hKc, hDc.weaken (fun _ _ _ _ => trivial)⟩⟩ rfl rfl hl.1 rfl (lv_room (Nat.le_of_ble_eq_true rfl)) dL_law_200 ⟨Nat.le_of_ble_eq_true rfl, Nat.le_of_ble_eq_true rfl⟩) hS (fun q _ h => hFc q h) hFc (fun ry w1 t H1 locs ht hvm hry hB hz1 hk1 hS => ?_)
  obtain ⟨hP1, hK1, hD1⟩ := hB
  rw [ht] at hP1
  obtain ⟨hP, hD⟩ := va_join (wr := xw ad cd u1) (w1 := yw bd ed w1) hP hD [0, 1, 2, 3, 4, 5] [6, 7, 8, 9, 10, 11] rfl rfl (by decide) (by decide) hk1 hFc hP1 hD1
  generalize H1 = H at hP hS ⊢
  have hP : va_P D vwCl (xw ad cd u1 ++ yw bd ed w1) H := hP
  have hD : va_D (fun q : Nat => s.heap.size ≤ q) (xw ad cd u1 ++ yw bd ed w1) := hD
  have hst := step_answer hR (xs (nI i + 1).toNatClampNeg) (((xs (nI i + 2).toNatClampNeg).toInt64 <<< ((32 : Int32).toInt64 &&& 63)) ||| ((xs (nI i + 3).toNatClampNeg).toInt64 &&& 4294967295))
  rw [← hrx] at hst
  rw [← hry] at hst
  refine lv_icmp_eq (tgt := 579) hx hb dL_law_203 (by decide) (fun _ => kont u1 w1 H locs hst.2 hP hD hS) (fun c9 => absurd hst.1 c9)
set_option maxHeartbeats 4000000 in
set_option maxRecDepth 100000 in
theorem law_2 {p : Program} {l : Launch} {e : Env} {s : State} {m : MethodId} {below : List Frame} {meth : Method} {c : Code} {D : va_G} {b L : Nat} {xs : Nat → Int32} (hL : L ≤ 2560) (C0 : lw_At p s m meth c b L xs) {ad bd : Nat → Nat} {cd ed : Nat → ClassId} (hK : va_K D vwCl (xt cd ++ yt ed) s) {i : Nat} (hi : i + 5 ≤ L) {ls : Array Slot} (hl : lv_has ls 4 [(0, .ref b), (1, .ref (ad 0)), (2, .ref (bd 0)), (3, .int (nI i))]) (kont : lw_K p l e s m below meth c D b ad bd cd ed ls 579) : lw_K p l e s m below meth c D b ad bd cd ed ls 208 := by
  obtain ⟨hx, hb, hr, hml, hown, hts0, hX, hbl, hlocks, hgv⟩ := C0
  have hts := fun w h => hts0 w (wsL_law_in w h)
  have hA : ∀ q : Nat, s.heap.size ≤ q → (fun q : Nat => s.heap.size ≤ q) q := fun _ h => h
  have hbA : ¬ (fun q : Nat => s.heap.size ≤ q) b := Nat.not_le.mpr hbl
  intro u w H locs hR hP hD hS
  refine lv_aload_n hx hb dL_law_208 rfl (lv_at hl 1 rfl) ?_
  refine lv_aload_n hx hb dL_law_209 rfl (lv_at hl 0 rfl) ?_
  refine lv_iload_n hx hb dL_law_210 rfl (lv_at hl 3 rfl) ?_
  refine lv_iconst (v := 1) hx hb dL_law_211 (by decide) ?_
  refine lv_iadd hx hb dL_law_212 ?_
  refine va_sld hx hb hX hbl hbA hS (sc_in 1 rfl (by omega) hL) dL_law_213 ?_
  refine lv_aload_n hx hb dL_law_214 rfl (lv_at hl 0 rfl) ?_
  refine lv_iload_n hx hb dL_law_215 rfl (lv_at hl 3 rfl) ?_
  refine lv_iconst (v := 2) hx hb dL_law_216 (by decide) ?_
  refine lv_iadd hx hb dL_law_217 ?_
  refine va_sld hx hb hX hbl hbA hS (sc_in 2 rfl (by omega) hL) dL_law_218 ?_
  have hPc := hP.sub (ws' := xw ad cd u) [0, 1, 2, 3, 4, 5] rfl
  have hKc := hK.sub (tys' := xt cd) [0, 1, 2, 3, 4] rfl
  have hDc := hD.sub (ws' := xw ad cd u) [0, 1, 2, 3, 4, 5] (by decide) rfl
  have hFc := va_free (wc := xw ad cd u) hD hS hA [0, 1, 2, 3, 4, 5] rfl
  refine va_calli (va_runV (As := [.int (xs (nI i + 1).toNatClampNeg), .int (xs (nI i + 2).toNatClampNeg)]) (rest := []) ⟨hx, hb, hml, hown, hts⟩ (xk_fails l D ad cd u H.size (xs (nI i + 1).toNatClampNeg) (xs (nI i + 2).toNatClampNeg)) (cwV 2 hts gL_law_X0_fails rfl rfl rfl (by decide +kernel) ⟨Nat.le_of_ble_eq_true rfl, Nat.le_of_ble_eq_true rfl⟩) ⟨fun a U g mk q => ⟨q.1, q.2.1, q.2.2.1, va_K.moved (u := U) (U := U.calling g mk a) (Vm.Alike.refl U.vm) q.2.2.2.1, q.2.2.2.2⟩, va_recv hKc hPc (ci := 0) (q0 := 0) rfl rfl, fun U hU hW => ⟨rfl, by rw [hU], by rw [hU]; exact hPc, va_K.moved hW.alike hKc, hDc.weaken (fun _ _ _ _ => trivial)⟩⟩ rfl rfl hl.1 rfl (lv_room (Nat.le_of_ble_eq_true rfl)) dL_law_219 ⟨Nat.le_of_ble_eq_true rfl, Nat.le_of_ble_eq_true rfl⟩) hS (fun q _ h => hFc q h) hFc (fun rx u1 t H1 locs ht hvm hrx hB hz1 hk1 hS => ?_)
  obtain ⟨hP1, hK1, hD1⟩ := hB
  rw [ht] at hP1
  obtain ⟨hP, hD⟩ := va_join (wr := yw bd ed w) (w1 := xw ad cd u1) hP hD [0, 1, 2, 3, 4, 5] [6, 7, 8, 9, 10, 11] rfl rfl (by decide) (by decide) hk1 hFc hP1 hD1
  generalize H1 = H at hP hS ⊢
  have hP : va_P D vwCl (yw bd ed w ++ xw ad cd u1) H := hP
  have hD : va_D (fun q : Nat => s.heap.size ≤ q) (yw bd ed w ++ xw ad cd u1) := hD
  refine lv_aload_n hx hb dL_law_222 rfl (lv_at hl 2 rfl) ?_
  refine lv_aload_n hx hb dL_law_223 rfl (lv_at hl 0 rfl) ?_
  refine lv_iload_n hx hb dL_law_224 rfl (lv_at hl 3 rfl) ?_
  refine lv_iconst (v := 1) hx hb dL_law_225 (by decide) ?_
  refine lv_iadd hx hb dL_law_226 ?_
  refine va_sld hx hb hX hbl hbA hS (sc_in 1 rfl (by omega) hL) dL_law_227 ?_
  refine lv_aload_n hx hb dL_law_228 rfl (lv_at hl 0 rfl) ?_
  refine lv_iload_n hx hb dL_law_229 rfl (lv_at hl 3 rfl) ?_
  refine lv_iconst (v := 2) hx hb dL_law_230 (by decide) ?_
  refine lv_iadd hx hb dL_law_231 ?_
  refine va_sld hx hb hX hbl hbA hS (sc_in 2 rfl (by omega) hL) dL_law_232 ?_
  have hPc := hP.sub (ws' := yw bd ed w) [0, 1, 2, 3, 4, 5] rfl
  have hKc := hK.sub (tys' := yt ed) [5, 6, 7, 8, 9] rfl
  have hDc := hD.sub (ws' := yw bd ed w) [0, 1, 2, 3, 4, 5] (by decide) rfl
  have hFc := va_free (wc := yw bd ed w) hD hS hA [0, 1, 2, 3, 4, 5] rfl
  refine va_calli (va_runV (As := [.int (xs (nI i + 1).toNatClampNeg), .int (xs (nI i + 2).toNatClampNeg)]) (rest := [.int rx]) ⟨hx, hb, hml, hown, hts⟩ (yk_fails l D bd ed w H.size (xs (nI i + 1).toNatClampNeg) (xs (nI i + 2).toNatClampNeg)) (cwV 2 hts gL_law_X1_fails rfl rfl rfl (by decide +kernel) ⟨Nat.le_of_ble_eq_true rfl, Nat.le_of_ble_eq_true rfl⟩) ⟨fun a U g mk q => ⟨q.1, q.2.1, q.2.2.1, va_K.moved (u := U) (U := U.calling g mk a) (Vm.Alike.refl U.vm) q.2.2.2.1, q.2.2.2.2⟩, va_recv hKc hPc (ci := 1) (q0 := 0) rfl rfl, fun U hU hW => ⟨rfl, by rw [hU], by rw [hU]; exact hPc, va_K.moved hW.alike hKc, hDc.weaken (fun _ _ _ _ => trivial)⟩⟩ rfl rfl hl.1 rfl (lv_room (Nat.le_of_ble_eq_true rfl)) dL_law_233 ⟨Nat.le_of_ble_eq_true rfl, Nat.le_of_ble_eq_true rfl⟩) hS (fun q _ h => hFc q h) hFc (fun ry w1 t H1 locs ht hvm hry hB hz1 hk1 hS => ?_)
  obtain ⟨hP1, hK1, hD1⟩ := hB
  rw [ht] at hP1
  obtain ⟨hP, hD⟩ := va_join (wr := xw ad cd u1) (w1 := yw bd ed w1) hP hD [0, 1, 2, 3, 4, 5] [6, 7, 8, 9, 10, 11] rfl rfl (by decide) (by decide) hk1 hFc hP1 hD1
  generalize H1 = H at hP hS ⊢
  have hP : va_P D vwCl (xw ad cd u1 ++ yw bd ed w1) H := hP
  have hD : va_D (fun q : Nat => s.heap.size ≤ q) (xw ad cd u1 ++ yw bd ed w1) := hD
  have hst := step_fails hR (xs (nI i + 1).toNatClampNeg) (xs (nI i + 2).toNatClampNeg)
  rw [← hrx] at hst
  rw [← hry] at hst
  refine lv_icmp_eq (tgt := 579) hx hb dL_law_236 (by decide) (fun _ => kont u1 w1 H locs hst.2 hP hD hS) (fun c9 => absurd hst.1 c9)
set_option maxHeartbeats 4000000 in
set_option maxRecDepth 100000 in
theorem law_3 {p : Program} {l : Launch} {e : Env} {s : State} {m : MethodId} {below : List Frame} {meth : Method} {c : Code} {D : va_G} {b L : Nat} {xs : Nat → Int32} (hL : L ≤ 2560) (C0 : lw_At p s m meth c b L xs) {ad bd : Nat → Nat} {cd ed : Nat → ClassId} (hK : va_K D vwCl (xt cd ++ yt ed) s) {i : Nat} (hi : i + 5 ≤ L) {ls : Array Slot} (hl : lv_has ls 4 [(0, .ref b), (1, .ref (ad 0)), (2, .ref (bd 0)), (3, .int (nI i))]) (kont : lw_K p l e s m below meth c D b ad bd cd ed ls 579) : lw_K p l e s m below meth c D b ad bd cd ed ls 241 := by
  obtain ⟨hx, hb, hr, hml, hown, hts0, hX, hbl, hlocks, hgv⟩ := C0
  have hts := fun w h => hts0 w (wsL_law_in w h)
  have hA : ∀ q : Nat, s.heap.size ≤ q → (fun q : Nat => s.heap.size ≤ q) q := fun _ h => h
  have hbA : ¬ (fun q : Nat => s.heap.size ≤ q) b := Nat.not_le.mpr hbl
  intro u w H locs hR hP hD hS
  refine lv_aload_n hx hb dL_law_241 rfl (lv_at hl 1 rfl) ?_
  refine lv_aload_n hx hb dL_law_242 rfl (lv_at hl 0 rfl) ?_
  refine lv_iload_n hx hb dL_law_243 rfl (lv_at hl 3 rfl) ?_
  refine lv_iconst (v := 1) hx hb dL_law_244 (by decide) ?_
  refine lv_iadd hx hb dL_law_245 ?_
  refine va_sld hx hb hX hbl hbA hS (sc_in 1 rfl (by omega) hL) dL_law_246 ?_
  have hPc := hP.sub (ws' := xw ad cd u) [0, 1, 2, 3, 4, 5] rfl
  have hKc := hK.sub (tys' := xt cd) [0, 1, 2, 3, 4] rfl
  have hDc := hD.sub (ws' := xw ad cd u) [0, 1, 2, 3, 4, 5] (by decide) rfl
  have hFc := va_free (wc := xw ad cd u) hD hS hA [0, 1, 2, 3, 4, 5] rfl
  refine va_calli (va_runV (As := [.int (xs (nI i + 1).toNatClampNeg)]) (rest := []) ⟨hx, hb, hml, hown, hts⟩ (xk_make l D ad cd u H.size (xs (nI i + 1).toNatClampNeg) (rel_h0 hR)) (cwV 1 hts gL_law_X0_make rfl rfl rfl (by decide +kernel) ⟨Nat.le_of_ble_eq_true rfl, Nat.le_of_ble_eq_true rfl⟩) ⟨fun a U g mk q => ⟨q.1, q.2.1, q.2.2.1, va_K.moved (u := U) (U := U.calling g mk a) (Vm.Alike.refl U.vm) q.2.2.2.1, q.2.2.2.2⟩, va_recv hKc hPc (ci := 0) (q0 := 0) rfl rfl, fun U hU hW => ⟨rfl, by rw [hU], by rw [hU]; exact hPc, va_K.moved hW.alike hKc, hDc.weaken (fun _ _ _ _ => trivial)⟩⟩ rfl rfl hl.1 rfl (lv_room (Nat.le_of_ble_eq_true rfl)) dL_law_247 ⟨Nat.le_of_ble_eq_true rfl, Nat.le_of_ble_eq_true rfl⟩) hS (fun q _ h => hFc q h) hFc (fun rx u1 t H1 locs ht hvm hrx hB hz1 hk1 hS => ?_)
  obtain ⟨hP1, hK1, hD1⟩ := hB
  rw [ht] at hP1
  obtain ⟨hP, hD⟩ := va_join (wr := yw bd ed w) (w1 := xw ad cd u1) hP hD [0, 1, 2, 3, 4, 5] [6, 7, 8, 9, 10, 11] rfl rfl (by decide) (by decide) hk1 hFc hP1 hD1
  generalize H1 = H at hP hS ⊢
  have hP : va_P D vwCl (yw bd ed w ++ xw ad cd u1) H := hP
  have hD : va_D (fun q : Nat => s.heap.size ≤ q) (yw bd ed w ++ xw ad cd u1) := hD
  refine lv_aload_n hx hb dL_law_250 rfl (lv_at hl 2 rfl) ?_
  refine lv_aload_n hx hb dL_law_251 rfl (lv_at hl 0 rfl) ?_
  refine lv_iload_n hx hb dL_law_252 rfl (lv_at hl 3 rfl) ?_
  refine lv_iconst (v := 1) hx hb dL_law_253 (by decide) ?_
  refine lv_iadd hx hb dL_law_254 ?_
  refine va_sld hx hb hX hbl hbA hS (sc_in 1 rfl (by omega) hL) dL_law_255 ?_
  have hPc := hP.sub (ws' := yw bd ed w) [0, 1, 2, 3, 4, 5] rfl
  have hKc := hK.sub (tys' := yt ed) [5, 6, 7, 8, 9] rfl
  have hDc := hD.sub (ws' := yw bd ed w) [0, 1, 2, 3, 4, 5] (by decide) rfl
  have hFc := va_free (wc := yw bd ed w) hD hS hA [0, 1, 2, 3, 4, 5] rfl
  refine va_calli (va_runV (As := [.int (xs (nI i + 1).toNatClampNeg)]) (rest := [.int rx]) ⟨hx, hb, hml, hown, hts⟩ (yk_make l D bd ed w H.size (xs (nI i + 1).toNatClampNeg) (rel_h1 hR)) (cwV 1 hts gL_law_X1_make rfl rfl rfl (by decide +kernel) ⟨Nat.le_of_ble_eq_true rfl, Nat.le_of_ble_eq_true rfl⟩) ⟨fun a U g mk q => ⟨q.1, q.2.1, q.2.2.1, va_K.moved (u := U) (U := U.calling g mk a) (Vm.Alike.refl U.vm) q.2.2.2.1, q.2.2.2.2⟩, va_recv hKc hPc (ci := 1) (q0 := 0) rfl rfl, fun U hU hW => ⟨rfl, by rw [hU], by rw [hU]; exact hPc, va_K.moved hW.alike hKc, hDc.weaken (fun _ _ _ _ => trivial)⟩⟩ rfl rfl hl.1 rfl (lv_room (Nat.le_of_ble_eq_true rfl)) dL_law_256 ⟨Nat.le_of_ble_eq_true rfl, Nat.le_of_ble_eq_true rfl⟩) hS (fun q _ h => hFc q h) hFc (fun ry w1 t H1 locs ht hvm hry hB hz1 hk1 hS => ?_)
  obtain ⟨hP1, hK1, hD1⟩ := hB
  rw [ht] at hP1
  obtain ⟨hP, hD⟩ := va_join (wr := xw ad cd u1) (w1 := yw bd ed w1) hP hD [0, 1, 2, 3, 4, 5] [6, 7, 8, 9, 10, 11] rfl rfl (by decide) (by decide) hk1 hFc hP1 hD1
  generalize H1 = H at hP hS ⊢
  have hP : va_P D vwCl (xw ad cd u1 ++ yw bd ed w1) H := hP
  have hD : va_D (fun q : Nat => s.heap.size ≤ q) (xw ad cd u1 ++ yw bd ed w1) := hD
  have hst := step_make hR (xs (nI i + 1).toNatClampNeg)
  rw [← hrx] at hst
  rw [← hry] at hst
  refine lv_icmp_eq (tgt := 579) hx hb dL_law_259 (by decide) (fun _ => kont u1 w1 H locs hst.2 hP hD hS) (fun c9 => absurd hst.1 c9)
end
section
set_option maxHeartbeats 4000000 in
set_option maxRecDepth 100000 in
theorem law_4 {p : Program} {l : Launch} {e : Env} {s : State} {m : MethodId} {below : List Frame} {meth : Method} {c : Code} {D : va_G} {b L : Nat} {xs : Nat → Int32} (hL : L ≤ 2560) (C0 : lw_At p s m meth c b L xs) {ad bd : Nat → Nat} {cd ed : Nat → ClassId} (hK : va_K D vwCl (xt cd ++ yt ed) s) {i : Nat} (hi : i + 5 ≤ L) {ls : Array Slot} (hl : lv_has ls 4 [(0, .ref b), (1, .ref (ad 0)), (2, .ref (bd 0)), (3, .int (nI i))]) (kont : lw_K p l e s m below meth c D b ad bd cd ed ls 579) : lw_K p l e s m below meth c D b ad bd cd ed ls 264 := by
  obtain ⟨hx, hb, hr, hml, hown, hts0, hX, hbl, hlocks, hgv⟩ := C0
  have hts := fun w h => hts0 w (wsL_law_in w h)
  have hA : ∀ q : Nat, s.heap.size ≤ q → (fun q : Nat => s.heap.size ≤ q) q := fun _ h => h
  have hbA : ¬ (fun q : Nat => s.heap.size ≤ q) b := Nat.not_le.mpr hbl
  intro u w H locs hR hP hD hS
  refine lv_aload_n hx hb dL_law_264 rfl (lv_at hl 1 rfl) ?_
  refine lv_aload_n hx hb dL_law_265 rfl (lv_at hl 0 rfl) ?_
  refine lv_iload_n hx hb dL_law_266 rfl (lv_at hl 3 rfl) ?_
  refine lv_iconst (v := 1) hx hb dL_law_267 (by decide) ?_
  refine lv_iadd hx hb dL_law_268 ?_
  refine va_sld hx hb hX hbl hbA hS (sc_in 1 rfl (by omega) hL) dL_law_269 ?_
  refine lv_aload_n hx hb dL_law_270 rfl (lv_at hl 0 rfl) ?_
  refine lv_iload_n hx hb dL_law_271 rfl (lv_at hl 3 rfl) ?_
  refine lv_iconst (v := 2) hx hb dL_law_272 (by decide) ?_
  refine lv_iadd hx hb dL_law_273 ?_
  refine va_sld hx hb hX hbl hbA hS (sc_in 2 rfl (by omega) hL) dL_law_274 ?_
  refine lv_aload_n hx hb dL_law_275 rfl (lv_at hl 0 rfl) ?_
  refine lv_iload_n hx hb dL_law_276 rfl (lv_at hl 3 rfl) ?_
  refine lv_iconst (v := 3) hx hb dL_law_277 (by decide) ?_
  refine lv_iadd hx hb dL_law_278 ?_
  refine va_sld hx hb hX hbl hbA hS (sc_in 3 rfl (by omega) hL) dL_law_279 ?_
  refine lv_i2l hx hb dL_law_280 rfl ?_
  refine lv_bipush (v := 32) hx hb dL_law_281 (by decide) ?_
  refine lv_lshl hx hb dL_law_283 rfl ?_
  refine lv_aload_n hx hb dL_law_284 rfl (lv_at hl 0 rfl) ?_
  refine lv_iload_n hx hb dL_law_285 rfl (lv_at hl 3 rfl) ?_
  refine lv_iconst (v := 4) hx hb dL_law_286 (by decide) ?_
  refine lv_iadd hx hb dL_law_287 ?_
  refine va_sld hx hb hX hbl hbA hS (sc_in 4 rfl (by omega) hL) dL_law_288 ?_
  refine lv_i2l hx hb dL_law_289 rfl ?_
  refine lv_ldc2 (v := 4294967295) hx hb hown (hts0 (.constantLong RL 13 4294967295) (by decide +kernel)) dL_law_290 ?_
  refine lv_land hx hb dL_law_293 ?_
  refine lv_lor hx hb dL_law_294 ?_
  have hPc := hP.sub (ws' := xw ad cd u) [0, 1, 2, 3, 4, 5] rfl
  have hKc := hK.sub (tys' := xt cd) [0, 1, 2, 3, 4] rfl
  have hDc := hD.sub (ws' := xw ad cd u) [0, 1, 2, 3, 4, 5] (by decide) rfl
  have hFc := va_free (wc := xw ad cd u) hD hS hA [0, 1, 2, 3, 4, 5] rfl
  refine va_calll (va_runV (As := [.int (xs (nI i + 1).toNatClampNeg), .int (xs (nI i + 2).toNatClampNeg), .long (((xs (nI i + 3).toNatClampNeg).toInt64 <<< ((32 : Int32).toInt64 &&& 63)) ||| ((xs (nI i + 4).toNatClampNeg).toInt64 &&& 4294967295))]) (rest := []) ⟨hx, hb, hml, hown, hts⟩ (xk_call l D ad cd u H.size (xs (nI i + 1).toNatClampNeg) (xs (nI i + 2).toNatClampNeg) (((xs (nI i + 3).toNatClampNeg).toInt64 <<< ((32 : Int32).toInt64 &&& 63)) ||| ((xs (nI i + 4).toNatClampNeg).toInt64 &&& 4294967295))) (cwV 3 hts gL_law_X0_call rfl rfl rfl (by decide +kernel) ⟨Nat.le_of_ble_eq_true rfl, Nat.le_of_ble_eq_true rfl⟩) ⟨fun a U g mk q => ⟨q.1, q.2.1, q.2.2.1, va_K.moved (u := U) (U := U.calling g mk a) (Vm.Alike.refl U.vm) q.2.2.2.1, q.2.2.2.2⟩, va_recv hKc hPc (ci := 0) (q0 := 0) rfl rfl, fun U hU hW => ⟨rfl, by rw [hU], by rw [hU]; exact hPc, va_K.moved hW.alike hKc, hDc.weaken (fun _ _ _ _ => trivial)⟩⟩ rfl rfl hl.1 rfl (lv_room (Nat.le_of_ble_eq_true rfl)) dL_law_295 ⟨Nat.le_of_ble_eq_true rfl, Nat.le_of_ble_eq_true rfl⟩) hS (fun q _ h => hFc q h) hFc (fun rx u1 t H1 locs ht hvm hrx hB hz1 hk1 hS => ?_)
  obtain ⟨hP1, hK1, hD1⟩ := hB
  rw [ht] at hP1
  obtain ⟨hP, hD⟩ := va_join (wr := yw bd ed w) (w1 := xw ad cd u1) hP hD [0, 1, 2, 3, 4, 5] [6, 7, 8, 9, 10, 11] rfl rfl (by decide) (by decide) hk1 hFc hP1 hD1
  generalize H1 = H at hP hS ⊢
  have hP : va_P D vwCl (yw bd ed w ++ xw ad cd u1) H := hP
  have hD : va_D (fun q : Nat => s.heap.size ≤ q) (yw bd ed w ++ xw ad cd u1) := hD
  refine lv_aload_n hx hb dL_law_298 rfl (lv_at hl 2 rfl) ?_
  refine lv_aload_n hx hb dL_law_299 rfl (lv_at hl 0 rfl) ?_
  refine lv_iload_n hx hb dL_law_300 rfl (lv_at hl 3 rfl) ?_
  refine lv_iconst (v := 1) hx hb dL_law_301 (by decide) ?_
  refine lv_iadd hx hb dL_law_302 ?_
  refine va_sld hx hb hX hbl hbA hS (sc_in 1 rfl (by omega) hL) dL_law_303 ?_
  refine lv_aload_n hx hb dL_law_304 rfl (lv_at hl 0 rfl) ?_
  refine lv_iload_n hx hb dL_law_305 rfl (lv_at hl 3 rfl) ?_
  refine lv_iconst (v := 2) hx hb dL_law_306 (by decide) ?_
  refine lv_iadd hx hb dL_law_307 ?_
  refine va_sld hx hb hX hbl hbA hS (sc_in 2 rfl (by omega) hL) dL_law_308 ?_
  refine lv_aload_n hx hb dL_law_309 rfl (lv_at hl 0 rfl) ?_
  refine lv_iload_n hx hb dL_law_310 rfl (lv_at hl 3 rfl) ?_
  refine lv_iconst (v := 3) hx hb dL_law_311 (by decide) ?_
  refine lv_iadd hx hb dL_law_312 ?_
  refine va_sld hx hb hX hbl hbA hS (sc_in 3 rfl (by omega) hL) dL_law_313 ?_
  refine lv_i2l hx hb dL_law_314 rfl ?_
  refine lv_bipush (v := 32) hx hb dL_law_315 (by decide) ?_
  refine lv_lshl hx hb dL_law_317 rfl ?_
  refine lv_aload_n hx hb dL_law_318 rfl (lv_at hl 0 rfl) ?_
  refine lv_iload_n hx hb dL_law_319 rfl (lv_at hl 3 rfl) ?_
  refine lv_iconst (v := 4) hx hb dL_law_320 (by decide) ?_
  refine lv_iadd hx hb dL_law_321 ?_
  refine va_sld hx hb hX hbl hbA hS (sc_in 4 rfl (by omega) hL) dL_law_322 ?_
  refine lv_i2l hx hb dL_law_323 rfl ?_
  refine lv_ldc2 (v := 4294967295) hx hb hown (hts0 (.constantLong RL 13 4294967295) (by decide +kernel)) dL_law_324 ?_
  refine lv_land hx hb dL_law_327 ?_
  refine lv_lor hx hb dL_law_328 ?_
  have hPc := hP.sub (ws' := yw bd ed w) [0, 1, 2, 3, 4, 5] rfl
  have hKc := hK.sub (tys' := yt ed) [5, 6, 7, 8, 9] rfl
  have hDc := hD.sub (ws' := yw bd ed w) [0, 1, 2, 3, 4, 5] (by decide) rfl
  have hFc := va_free (wc := yw bd ed w) hD hS hA [0, 1, 2, 3, 4, 5] rfl
  refine va_calll (va_runV (As := [.int (xs (nI i + 1).toNatClampNeg), .int (xs (nI i + 2).toNatClampNeg), .long (((xs (nI i + 3).toNatClampNeg).toInt64 <<< ((32 : Int32).toInt64 &&& 63)) ||| ((xs (nI i + 4).toNatClampNeg).toInt64 &&& 4294967295))]) (rest := [.long rx]) ⟨hx, hb, hml, hown, hts⟩ (yk_call l D bd ed w H.size (xs (nI i + 1).toNatClampNeg) (xs (nI i + 2).toNatClampNeg) (((xs (nI i + 3).toNatClampNeg).toInt64 <<< ((32 : Int32).toInt64 &&& 63)) ||| ((xs (nI i + 4).toNatClampNeg).toInt64 &&& 4294967295)) (rel_h2 hR)) (cwV 3 hts gL_law_X1_call rfl rfl rfl (by decide +kernel) ⟨Nat.le_of_ble_eq_true rfl, Nat.le_of_ble_eq_true rfl⟩) ⟨fun a U g mk q => ⟨q.1, q.2.1, q.2.2.1, va_K.moved (u := U) (U := U.calling g mk a) (Vm.Alike.refl U.vm) q.2.2.2.1, q.2.2.2.2⟩, va_recv hKc hPc (ci := 1) (q0 := 0) rfl rfl, fun U hU hW => ⟨rfl, by rw [hU], by rw [hU]; exact hPc, va_K.moved hW.alike hKc, hDc.weaken (fun _ _ _ _ => trivial)⟩⟩ rfl rfl hl.1 rfl (lv_room (Nat.le_of_ble_eq_true rfl)) dL_law_329 ⟨Nat.le_of_ble_eq_true rfl, Nat.le_of_ble_eq_true rfl⟩) hS (fun q _ h => hFc q h) hFc (fun ry w1 t H1 locs ht hvm hry hB hz1 hk1 hS => ?_)
  obtain ⟨hP1, hK1, hD1⟩ := hB
  rw [ht] at hP1
  obtain ⟨hP, hD⟩ := va_join (wr := xw ad cd u1) (w1 := yw bd ed w1) hP hD [0, 1, 2, 3, 4, 5] [6, 7, 8, 9, 10, 11] rfl rfl (by decide) (by decide) hk1 hFc hP1 hD1
  generalize H1 = H at hP hS ⊢
  have hP : va_P D vwCl (xw ad cd u1 ++ yw bd ed w1) H := hP
  have hD : va_D (fun q : Nat => s.heap.size ≤ q) (xw ad cd u1 ++ yw bd ed w1) := hD
  refine W.lcmp hx hb dL_law_332 ?_
  have hst := step_call hR (xs (nI i + 1).toNatClampNeg) (xs (nI i + 2).toNatClampNeg) (((xs (nI i + 3).toNatClampNeg).toInt64 <<< ((32 : Int32).toInt64 &&& 63)) ||| ((xs (nI i + 4).toNatClampNeg).toInt64 &&& 4294967295))
  rw [← hrx] at hst
  rw [← hry] at hst
  refine lv_if_eq (tgt := 579) hx hb dL_law_333 (by decide) (fun _ => kont u1 w1 H locs hst.2 hP hD hS) (fun c9 => absurd ((lg_cmp_eq _ _).mpr hst.1) c9)
set_option maxHeartbeats 4000000 in
set_option maxRecDepth 100000 in
theorem law_5 {p : Program} {l : Launch} {e : Env} {s : State} {m : MethodId} {below : List Frame} {meth : Method} {c : Code} {D : va_G} {b L : Nat} {xs : Nat → Int32} (hL : L ≤ 2560) (C0 : lw_At p s m meth c b L xs) {ad bd : Nat → Nat} {cd ed : Nat → ClassId} (hK : va_K D vwCl (xt cd ++ yt ed) s) {i : Nat} (hi : i + 5 ≤ L) {ls : Array Slot} (hl : lv_has ls 4 [(0, .ref b), (1, .ref (ad 0)), (2, .ref (bd 0)), (3, .int (nI i))]) (kont : lw_K p l e s m below meth c D b ad bd cd ed ls 579) : lw_K p l e s m below meth c D b ad bd cd ed ls 338 := by
  obtain ⟨hx, hb, hr, hml, hown, hts0, hX, hbl, hlocks, hgv⟩ := C0
  have hts := fun w h => hts0 w (wsL_law_in w h)
  have hA : ∀ q : Nat, s.heap.size ≤ q → (fun q : Nat => s.heap.size ≤ q) q := fun _ h => h
  have hbA : ¬ (fun q : Nat => s.heap.size ≤ q) b := Nat.not_le.mpr hbl
  intro u w H locs hR hP hD hS
  refine lv_aload_n hx hb dL_law_338 rfl (lv_at hl 1 rfl) ?_
  refine lv_aload_n hx hb dL_law_339 rfl (lv_at hl 0 rfl) ?_
  refine lv_iload_n hx hb dL_law_340 rfl (lv_at hl 3 rfl) ?_
  refine lv_iconst (v := 1) hx hb dL_law_341 (by decide) ?_
  refine lv_iadd hx hb dL_law_342 ?_
  refine va_sld hx hb hX hbl hbA hS (sc_in 1 rfl (by omega) hL) dL_law_343 ?_
  have hPc := hP.sub (ws' := xw ad cd u) [0, 1, 2, 3, 4, 5] rfl
  have hKc := hK.sub (tys' := xt cd) [0, 1, 2, 3, 4] rfl
  refine vp_callSl (W.runV (As := [.int (xs (nI i + 1).toNatClampNeg)]) (rest := []) ⟨hx, hb, hml, hown, hts⟩ (xk_told l D ad cd u (xs (nI i + 1).toNatClampNeg)) (cwV 1 hts gL_law_X0_told rfl rfl rfl (by decide +kernel) ⟨Nat.le_of_ble_eq_true rfl, Nat.le_of_ble_eq_true rfl⟩) ⟨fun a U g mk q => ⟨q.1, q.2.1, va_K.moved (u := U) (U := U.calling g mk a) (Vm.Alike.refl U.vm) q.2.2⟩, va_recv hKc hPc (ci := 0) (q0 := 0) rfl rfl, fun U hU hW => ⟨rfl, by rw [hU]; exact hPc, va_K.moved hW.alike hKc⟩⟩ rfl rfl hl.1 rfl (lv_room (Nat.le_of_ble_eq_true rfl)) dL_law_344 ⟨Nat.le_of_ble_eq_true rfl, Nat.le_of_ble_eq_true rfl⟩) (fun rx hrx => ?_)
  refine lv_aload_n hx hb dL_law_347 rfl (lv_at hl 2 rfl) ?_
  refine lv_aload_n hx hb dL_law_348 rfl (lv_at hl 0 rfl) ?_
  refine lv_iload_n hx hb dL_law_349 rfl (lv_at hl 3 rfl) ?_
  refine lv_iconst (v := 1) hx hb dL_law_350 (by decide) ?_
  refine lv_iadd hx hb dL_law_351 ?_
  refine va_sld hx hb hX hbl hbA hS (sc_in 1 rfl (by omega) hL) dL_law_352 ?_
  have hPc := hP.sub (ws' := yw bd ed w) [6, 7, 8, 9, 10, 11] rfl
  have hKc := hK.sub (tys' := yt ed) [5, 6, 7, 8, 9] rfl
  refine vp_callSl (W.runV (As := [.int (xs (nI i + 1).toNatClampNeg)]) (rest := [.long rx]) ⟨hx, hb, hml, hown, hts⟩ (yk_tell l D bd ed w (xs (nI i + 1).toNatClampNeg)) (cwV 1 hts0 gT_law_X1_tell rfl rfl rfl (by decide +kernel) ⟨Nat.le_of_ble_eq_true rfl, Nat.le_of_ble_eq_true rfl⟩) ⟨fun a U g mk q => ⟨q.1, q.2.1, va_K.moved (u := U) (U := U.calling g mk a) (Vm.Alike.refl U.vm) q.2.2⟩, va_recv hKc hPc (ci := 1) (q0 := 0) rfl rfl, fun U hU hW => ⟨rfl, by rw [hU]; exact hPc, va_K.moved hW.alike hKc⟩⟩ rfl rfl hl.1 rfl (lv_room (Nat.le_of_ble_eq_true rfl)) dL_law_353 ⟨Nat.le_of_ble_eq_true rfl, Nat.le_of_ble_eq_true rfl⟩) (fun ry hry => ?_)
  refine W.lcmp hx hb dL_law_356 ?_
  have hst := step_told hR (xs (nI i + 1).toNatClampNeg)
  subst hrx
  subst hry
  refine lv_if_eq (tgt := 579) hx hb dL_law_357 (by decide) (fun _ => kont u w H locs hR hP hD hS) (fun c9 => absurd ((lg_cmp_eq _ _).mpr hst) c9)
set_option maxHeartbeats 4000000 in
set_option maxRecDepth 100000 in
theorem law_6 {p : Program} {l : Launch} {e : Env} {s : State} {m : MethodId} {below : List Frame} {meth : Method} {c : Code} {D : va_G} {b L : Nat} {xs : Nat → Int32} (hL : L ≤ 2560) (C0 : lw_At p s m meth c b L xs) {ad bd : Nat → Nat} {cd ed : Nat → ClassId} (hK : va_K D vwCl (xt cd ++ yt ed) s) {i : Nat} (hi : i + 5 ≤ L) {ls : Array Slot} (hl : lv_has ls 4 [(0, .ref b), (1, .ref (ad 0)), (2, .ref (bd 0)), (3, .int (nI i))]) (kont : lw_K p l e s m below meth c D b ad bd cd ed ls 579) : lw_K p l e s m below meth c D b ad bd cd ed ls 362 := by
  obtain ⟨hx, hb, hr, hml, hown, hts0, hX, hbl, hlocks, hgv⟩ := C0
  have hts := fun w h => hts0 w (wsL_law_in w h)
  have hA : ∀ q : Nat, s.heap.size ≤ q → (fun q : Nat => s.heap.size ≤ q) q := fun _ h => h
  have hbA : ¬ (fun q : Nat => s.heap.size ≤ q) b := Nat.not_le.mpr hbl
  intro u w H locs hR hP hD hS
  refine lv_aload_n hx hb dL_law_362 rfl (lv_at hl 1 rfl) ?_
  refine lv_aload_n hx hb dL_law_363 rfl (lv_at hl 0 rfl) ?_
  refine lv_iload_n hx hb dL_law_364 rfl (lv_at hl 3 rfl) ?_
  refine lv_iconst (v := 1) hx hb dL_law_365 (by decide) ?_
  refine lv_iadd hx hb dL_law_366 ?_
  refine va_sld hx hb hX hbl hbA hS (sc_in 1 rfl (by omega) hL) dL_law_367 ?_
  have hPc := hP.sub (ws' := xw ad cd u) [0, 1, 2, 3, 4, 5] rfl
  have hKc := hK.sub (tys' := xt cd) [0, 1, 2, 3, 4] rfl
  have hDc := hD.sub (ws' := xw ad cd u) [0, 1, 2, 3, 4, 5] (by decide) rfl
  have hFc := va_free (wc := xw ad cd u) hD hS hA [0, 1, 2, 3, 4, 5] rfl
  refine va_calli (va_runV (As := [.int (xs (nI i + 1).toNatClampNeg)]) (rest := []) ⟨hx, hb, hml, hown, hts⟩ (xk_drop l D ad cd u H.size (xs (nI i + 1).toNatClampNeg)) (cwV 1 hts gL_law_X0_drop rfl rfl rfl (by decide +kernel) ⟨Nat.le_of_ble_eq_true rfl, Nat.le_of_ble_eq_true rfl⟩) ⟨fun a U g mk q => ⟨q.1, q.2.1, q.2.2.1, va_K.moved (u := U) (U := U.calling g mk a) (Vm.Alike.refl U.vm) q.2.2.2.1, q.2.2.2.2⟩, va_recv hKc hPc (ci := 0) (q0 := 0) rfl rfl, fun U hU hW => ⟨rfl, by rw [hU], by rw [hU]; exact hPc, va_K.moved hW.alike hKc, hDc.weaken (fun _ _ _ _ => trivial)⟩⟩ rfl rfl hl.1 rfl (lv_room (Nat.le_of_ble_eq_true rfl)) dL_law_368 ⟨Nat.le_of_ble_eq_true rfl, Nat.le_of_ble_eq_true rfl⟩) hS (fun q _ h => hFc q h) hFc (fun rx u1 t H1 locs ht hvm hrx hB hz1 hk1 hS => ?_)
  obtain ⟨hP1, hK1, hD1⟩ := hB
  rw [ht] at hP1
  obtain ⟨hP, hD⟩ := va_join (wr := yw bd ed w) (w1 := xw ad cd u1) hP hD [0, 1, 2, 3, 4, 5] [6, 7, 8, 9, 10, 11] rfl rfl (by decide) (by decide) hk1 hFc hP1 hD1
  generalize H1 = H at hP hS ⊢
  have hP : va_P D vwCl (yw bd ed w ++ xw ad cd u1) H := hP
  have hD : va_D (fun q : Nat => s.heap.size ≤ q) (yw bd ed w ++ xw ad cd u1) := hD
  refine lv_aload_n hx hb dL_law_371 rfl (lv_at hl 2 rfl) ?_
  refine lv_aload_n hx hb dL_law_372 rfl (lv_at hl 0 rfl) ?_
  refine lv_iload_n hx hb dL_law_373 rfl (lv_at hl 3 rfl) ?_
  refine lv_iconst (v := 1) hx hb dL_law_374 (by decide) ?_
  refine lv_iadd hx hb dL_law_375 ?_
  refine va_sld hx hb hX hbl hbA hS (sc_in 1 rfl (by omega) hL) dL_law_376 ?_
  have hPc := hP.sub (ws' := yw bd ed w) [0, 1, 2, 3, 4, 5] rfl
  have hKc := hK.sub (tys' := yt ed) [5, 6, 7, 8, 9] rfl
  have hDc := hD.sub (ws' := yw bd ed w) [0, 1, 2, 3, 4, 5] (by decide) rfl
  have hFc := va_free (wc := yw bd ed w) hD hS hA [0, 1, 2, 3, 4, 5] rfl
  refine va_calli (va_runV (As := [.int (xs (nI i + 1).toNatClampNeg)]) (rest := [.int rx]) ⟨hx, hb, hml, hown, hts⟩ (yk_drop l D bd ed w H.size (xs (nI i + 1).toNatClampNeg)) (cwV 1 hts gL_law_X1_drop rfl rfl rfl (by decide +kernel) ⟨Nat.le_of_ble_eq_true rfl, Nat.le_of_ble_eq_true rfl⟩) ⟨fun a U g mk q => ⟨q.1, q.2.1, q.2.2.1, va_K.moved (u := U) (U := U.calling g mk a) (Vm.Alike.refl U.vm) q.2.2.2.1, q.2.2.2.2⟩, va_recv hKc hPc (ci := 1) (q0 := 0) rfl rfl, fun U hU hW => ⟨rfl, by rw [hU], by rw [hU]; exact hPc, va_K.moved hW.alike hKc, hDc.weaken (fun _ _ _ _ => trivial)⟩⟩ rfl rfl hl.1 rfl (lv_room (Nat.le_of_ble_eq_true rfl)) dL_law_377 ⟨Nat.le_of_ble_eq_true rfl, Nat.le_of_ble_eq_true rfl⟩) hS (fun q _ h => hFc q h) hFc (fun ry w1 t H1 locs ht hvm hry hB hz1 hk1 hS => ?_)
  obtain ⟨hP1, hK1, hD1⟩ := hB
  rw [ht] at hP1
  obtain ⟨hP, hD⟩ := va_join (wr := xw ad cd u1) (w1 := yw bd ed w1) hP hD [0, 1, 2, 3, 4, 5] [6, 7, 8, 9, 10, 11] rfl rfl (by decide) (by decide) hk1 hFc hP1 hD1
  generalize H1 = H at hP hS ⊢
  have hP : va_P D vwCl (xw ad cd u1 ++ yw bd ed w1) H := hP
  have hD : va_D (fun q : Nat => s.heap.size ≤ q) (xw ad cd u1 ++ yw bd ed w1) := hD
  have hst := step_drop hR (xs (nI i + 1).toNatClampNeg)
  rw [← hrx] at hst
  rw [← hry] at hst
  refine lv_icmp_eq (tgt := 579) hx hb dL_law_380 (by decide) (fun _ => kont u1 w1 H locs hst.2 hP hD hS) (fun c9 => absurd hst.1 c9)
set_option maxHeartbeats 4000000 in
set_option maxRecDepth 100000 in
theorem law_7 {p : Program} {l : Launch} {e : Env} {s : State} {m : MethodId} {below : List Frame} {meth : Method} {c : Code} {D : va_G} {b L : Nat} {xs : Nat → Int32} (hL : L ≤ 2560) (C0 : lw_At p s m meth c b L xs) {ad bd : Nat → Nat} {cd ed : Nat → ClassId} (hK : va_K D vwCl (xt cd ++ yt ed) s) {i : Nat} (hi : i + 5 ≤ L) {ls : Array Slot} (hl : lv_has ls 4 [(0, .ref b), (1, .ref (ad 0)), (2, .ref (bd 0)), (3, .int (nI i))]) (kont : lw_K p l e s m below meth c D b ad bd cd ed ls 579) : lw_K p l e s m below meth c D b ad bd cd ed ls 385 := by
  obtain ⟨hx, hb, hr, hml, hown, hts0, hX, hbl, hlocks, hgv⟩ := C0
  have hts := fun w h => hts0 w (wsL_law_in w h)
  have hA : ∀ q : Nat, s.heap.size ≤ q → (fun q : Nat => s.heap.size ≤ q) q := fun _ h => h
  have hbA : ¬ (fun q : Nat => s.heap.size ≤ q) b := Nat.not_le.mpr hbl
  intro u w H locs hR hP hD hS
  refine lv_aload_n hx hb dL_law_385 rfl (lv_at hl 1 rfl) ?_
  refine lv_aload_n hx hb dL_law_386 rfl (lv_at hl 0 rfl) ?_
  refine lv_iload_n hx hb dL_law_387 rfl (lv_at hl 3 rfl) ?_
  refine lv_iconst (v := 1) hx hb dL_law_388 (by decide) ?_
  refine lv_iadd hx hb dL_law_389 ?_
  refine va_sld hx hb hX hbl hbA hS (sc_in 1 rfl (by omega) hL) dL_law_390 ?_
  have hPc := hP.sub (ws' := xw ad cd u) [0, 1, 2, 3, 4, 5] rfl
  have hKc := hK.sub (tys' := xt cd) [0, 1, 2, 3, 4] rfl
  refine vp_callSi (W.runV (As := [.int (xs (nI i + 1).toNatClampNeg)]) (rest := []) ⟨hx, hb, hml, hown, hts⟩ (xk_numbers l D ad cd u (xs (nI i + 1).toNatClampNeg)) (cwV 1 hts gL_law_X0_numbers rfl rfl rfl (by decide +kernel) ⟨Nat.le_of_ble_eq_true rfl, Nat.le_of_ble_eq_true rfl⟩) ⟨fun a U g mk q => ⟨q.1, q.2.1, va_K.moved (u := U) (U := U.calling g mk a) (Vm.Alike.refl U.vm) q.2.2⟩, va_recv hKc hPc (ci := 0) (q0 := 0) rfl rfl, fun U hU hW => ⟨rfl, by rw [hU]; exact hPc, va_K.moved hW.alike hKc⟩⟩ rfl rfl hl.1 rfl (lv_room (Nat.le_of_ble_eq_true rfl)) dL_law_391 ⟨Nat.le_of_ble_eq_true rfl, Nat.le_of_ble_eq_true rfl⟩) (fun rx hrx => ?_)
  refine lv_aload_n hx hb dL_law_394 rfl (lv_at hl 2 rfl) ?_
  refine lv_aload_n hx hb dL_law_395 rfl (lv_at hl 0 rfl) ?_
  refine lv_iload_n hx hb dL_law_396 rfl (lv_at hl 3 rfl) ?_
  refine lv_iconst (v := 1) hx hb dL_law_397 (by decide) ?_
  refine lv_iadd hx hb dL_law_398 ?_
  refine va_sld hx hb hX hbl hbA hS (sc_in 1 rfl (by omega) hL) dL_law_399 ?_
  have hPc := hP.sub (ws' := yw bd ed w) [6, 7, 8, 9, 10, 11] rfl
  have hKc := hK.sub (tys' := yt ed) [5, 6, 7, 8, 9] rfl
  refine vp_callSi (W.runV (As := [.int (xs (nI i + 1).toNatClampNeg)]) (rest := [.int rx]) ⟨hx, hb, hml, hown, hts⟩ (yk_numbers l D bd ed w (xs (nI i + 1).toNatClampNeg)) (cwV 1 hts gL_law_X1_numbers rfl rfl rfl (by decide +kernel) ⟨Nat.le_of_ble_eq_true rfl, Nat.le_of_ble_eq_true rfl⟩) ⟨fun a U g mk q => ⟨q.1, q.2.1, va_K.moved (u := U) (U := U.calling g mk a) (Vm.Alike.refl U.vm) q.2.2⟩, va_recv hKc hPc (ci := 1) (q0 := 0) rfl rfl, fun U hU hW => ⟨rfl, by rw [hU]; exact hPc, va_K.moved hW.alike hKc⟩⟩ rfl rfl hl.1 rfl (lv_room (Nat.le_of_ble_eq_true rfl)) dL_law_400 ⟨Nat.le_of_ble_eq_true rfl, Nat.le_of_ble_eq_true rfl⟩) (fun ry hry => ?_)
  have hst := step_numbers hR (xs (nI i + 1).toNatClampNeg)
  subst hrx
  subst hry
  refine lv_icmp_eq (tgt := 579) hx hb dL_law_403 (by decide) (fun _ => kont u w H locs hR hP hD hS) (fun c9 => absurd hst c9)
end
section
set_option maxHeartbeats 4000000 in
set_option maxRecDepth 100000 in
theorem law_8 {p : Program} {l : Launch} {e : Env} {s : State} {m : MethodId} {below : List Frame} {meth : Method} {c : Code} {D : va_G} {b L : Nat} {xs : Nat → Int32} (hL : L ≤ 2560) (C0 : lw_At p s m meth c b L xs) {ad bd : Nat → Nat} {cd ed : Nat → ClassId} (hK : va_K D vwCl (xt cd ++ yt ed) s) {i : Nat} (hi : i + 5 ≤ L) {ls : Array Slot} (hl : lv_has ls 4 [(0, .ref b), (1, .ref (ad 0)), (2, .ref (bd 0)), (3, .int (nI i))]) (kont : lw_K p l e s m below meth c D b ad bd cd ed ls 579) : lw_K p l e s m below meth c D b ad bd cd ed ls 408 := by
  obtain ⟨hx, hb, hr, hml, hown, hts0, hX, hbl, hlocks, hgv⟩ := C0
  have hts := fun w h => hts0 w (wsL_law_in w h)
  have hA : ∀ q : Nat, s.heap.size ≤ q → (fun q : Nat => s.heap.size ≤ q) q := fun _ h => h
  have hbA : ¬ (fun q : Nat => s.heap.size ≤ q) b := Nat.not_le.mpr hbl
  intro u w H locs hR hP hD hS
  refine lv_aload_n hx hb dL_law_408 rfl (lv_at hl 1 rfl) ?_
  refine lv_aload_n hx hb dL_law_409 rfl (lv_at hl 0 rfl) ?_
  refine lv_iload_n hx hb dL_law_410 rfl (lv_at hl 3 rfl) ?_
  refine lv_iconst (v := 1) hx hb dL_law_411 (by decide) ?_
  refine lv_iadd hx hb dL_law_412 ?_
  refine va_sld hx hb hX hbl hbA hS (sc_in 1 rfl (by omega) hL) dL_law_413 ?_
  have hPc := hP.sub (ws' := xw ad cd u) [0, 1, 2, 3, 4, 5] rfl
  have hKc := hK.sub (tys' := xt cd) [0, 1, 2, 3, 4] rfl
  refine vp_callSi (W.runV (As := [.int (xs (nI i + 1).toNatClampNeg)]) (rest := []) ⟨hx, hb, hml, hown, hts⟩ (xk_isThere l D ad cd u (xs (nI i + 1).toNatClampNeg)) (cwV 1 hts gL_law_X0_isThere rfl rfl rfl (by decide +kernel) ⟨Nat.le_of_ble_eq_true rfl, Nat.le_of_ble_eq_true rfl⟩) ⟨fun a U g mk q => ⟨q.1, q.2.1, va_K.moved (u := U) (U := U.calling g mk a) (Vm.Alike.refl U.vm) q.2.2⟩, va_recv hKc hPc (ci := 0) (q0 := 0) rfl rfl, fun U hU hW => ⟨rfl, by rw [hU]; exact hPc, va_K.moved hW.alike hKc⟩⟩ rfl rfl hl.1 rfl (lv_room (Nat.le_of_ble_eq_true rfl)) dL_law_414 ⟨Nat.le_of_ble_eq_true rfl, Nat.le_of_ble_eq_true rfl⟩) (fun rx hrx => ?_)
  refine lv_aload_n hx hb dL_law_417 rfl (lv_at hl 2 rfl) ?_
  refine lv_aload_n hx hb dL_law_418 rfl (lv_at hl 0 rfl) ?_
  refine lv_iload_n hx hb dL_law_419 rfl (lv_at hl 3 rfl) ?_
  refine lv_iconst (v := 1) hx hb dL_law_420 (by decide) ?_
  refine lv_iadd hx hb dL_law_421 ?_
  refine va_sld hx hb hX hbl hbA hS (sc_in 1 rfl (by omega) hL) dL_law_422 ?_
  have hPc := hP.sub (ws' := yw bd ed w) [6, 7, 8, 9, 10, 11] rfl
  have hKc := hK.sub (tys' := yt ed) [5, 6, 7, 8, 9] rfl
  refine vp_callSi (W.runV (As := [.int (xs (nI i + 1).toNatClampNeg)]) (rest := [.int rx]) ⟨hx, hb, hml, hown, hts⟩ (yk_isThere l D bd ed w (xs (nI i + 1).toNatClampNeg)) (cwV 1 hts gL_law_X1_isThere rfl rfl rfl (by decide +kernel) ⟨Nat.le_of_ble_eq_true rfl, Nat.le_of_ble_eq_true rfl⟩) ⟨fun a U g mk q => ⟨q.1, q.2.1, va_K.moved (u := U) (U := U.calling g mk a) (Vm.Alike.refl U.vm) q.2.2⟩, va_recv hKc hPc (ci := 1) (q0 := 0) rfl rfl, fun U hU hW => ⟨rfl, by rw [hU]; exact hPc, va_K.moved hW.alike hKc⟩⟩ rfl rfl hl.1 rfl (lv_room (Nat.le_of_ble_eq_true rfl)) dL_law_423 ⟨Nat.le_of_ble_eq_true rfl, Nat.le_of_ble_eq_true rfl⟩) (fun ry hry => ?_)
  have hst := there_eq hR (xs (nI i + 1).toNatClampNeg)
  subst hrx
  subst hry
  refine lv_icmp_eq (tgt := 579) hx hb dL_law_426 (by decide) (fun _ => kont u w H locs hR hP hD hS) (fun c9 => absurd hst c9)
set_option maxHeartbeats 4000000 in
set_option maxRecDepth 100000 in
theorem law_9 {p : Program} {l : Launch} {e : Env} {s : State} {m : MethodId} {below : List Frame} {meth : Method} {c : Code} {D : va_G} {b L : Nat} {xs : Nat → Int32} (hL : L ≤ 2560) (C0 : lw_At p s m meth c b L xs) {ad bd : Nat → Nat} {cd ed : Nat → ClassId} (hK : va_K D vwCl (xt cd ++ yt ed) s) {i : Nat} (hi : i + 5 ≤ L) {ls : Array Slot} (hl : lv_has ls 4 [(0, .ref b), (1, .ref (ad 0)), (2, .ref (bd 0)), (3, .int (nI i))]) (kont : lw_K p l e s m below meth c D b ad bd cd ed ls 579) : lw_K p l e s m below meth c D b ad bd cd ed ls 431 := by
  obtain ⟨hx, hb, hr, hml, hown, hts0, hX, hbl, hlocks, hgv⟩ := C0
  have hts := fun w h => hts0 w (wsL_law_in w h)
  have hA : ∀ q : Nat, s.heap.size ≤ q → (fun q : Nat => s.heap.size ≤ q) q := fun _ h => h
  have hbA : ¬ (fun q : Nat => s.heap.size ≤ q) b := Nat.not_le.mpr hbl
  intro u w H locs hR hP hD hS
  refine lv_aload_n hx hb dL_law_431 rfl (lv_at hl 1 rfl) ?_
  refine lv_aload_n hx hb dL_law_432 rfl (lv_at hl 0 rfl) ?_
  refine lv_iload_n hx hb dL_law_433 rfl (lv_at hl 3 rfl) ?_
  refine lv_iconst (v := 1) hx hb dL_law_434 (by decide) ?_
  refine lv_iadd hx hb dL_law_435 ?_
  refine va_sld hx hb hX hbl hbA hS (sc_in 1 rfl (by omega) hL) dL_law_436 ?_
  refine lv_aload_n hx hb dL_law_437 rfl (lv_at hl 0 rfl) ?_
  refine lv_iload_n hx hb dL_law_438 rfl (lv_at hl 3 rfl) ?_
  refine lv_iconst (v := 2) hx hb dL_law_439 (by decide) ?_
  refine lv_iadd hx hb dL_law_440 ?_
  refine va_sld hx hb hX hbl hbA hS (sc_in 2 rfl (by omega) hL) dL_law_441 ?_
  refine lv_aload_n hx hb dL_law_442 rfl (lv_at hl 0 rfl) ?_
  refine lv_iload_n hx hb dL_law_443 rfl (lv_at hl 3 rfl) ?_
  refine lv_iconst (v := 3) hx hb dL_law_444 (by decide) ?_
  refine lv_iadd hx hb dL_law_445 ?_
  refine va_sld hx hb hX hbl hbA hS (sc_in 3 rfl (by omega) hL) dL_law_446 ?_
  refine lv_i2l hx hb dL_law_447 rfl ?_
  refine lv_bipush (v := 32) hx hb dL_law_448 (by decide) ?_
  refine lv_lshl hx hb dL_law_450 rfl ?_
  refine lv_aload_n hx hb dL_law_451 rfl (lv_at hl 0 rfl) ?_
  refine lv_iload_n hx hb dL_law_452 rfl (lv_at hl 3 rfl) ?_
  refine lv_iconst (v := 4) hx hb dL_law_453 (by decide) ?_
  refine lv_iadd hx hb dL_law_454 ?_
  refine va_sld hx hb hX hbl hbA hS (sc_in 4 rfl (by omega) hL) dL_law_455 ?_
  refine lv_i2l hx hb dL_law_456 rfl ?_
  refine lv_ldc2 (v := 4294967295) hx hb hown (hts0 (.constantLong RL 13 4294967295) (by decide +kernel)) dL_law_457 ?_
  refine lv_land hx hb dL_law_460 ?_
  refine lv_lor hx hb dL_law_461 ?_
  have hPc := hP.sub (ws' := xw ad cd u) [0, 1, 2, 3, 4, 5] rfl
  have hKc := hK.sub (tys' := xt cd) [0, 1, 2, 3, 4] rfl
  refine vp_callSl (W.runV (As := [.int (xs (nI i + 1).toNatClampNeg), .int (xs (nI i + 2).toNatClampNeg), .long (((xs (nI i + 3).toNatClampNeg).toInt64 <<< ((32 : Int32).toInt64 &&& 63)) ||| ((xs (nI i + 4).toNatClampNeg).toInt64 &&& 4294967295))]) (rest := []) ⟨hx, hb, hml, hown, hts⟩ (xk_again l D ad cd u (xs (nI i + 1).toNatClampNeg) (xs (nI i + 2).toNatClampNeg) (((xs (nI i + 3).toNatClampNeg).toInt64 <<< ((32 : Int32).toInt64 &&& 63)) ||| ((xs (nI i + 4).toNatClampNeg).toInt64 &&& 4294967295))) (cwV 3 hts gL_law_X0_again rfl rfl rfl (by decide +kernel) ⟨Nat.le_of_ble_eq_true rfl, Nat.le_of_ble_eq_true rfl⟩) ⟨fun a U g mk q => ⟨q.1, q.2.1, va_K.moved (u := U) (U := U.calling g mk a) (Vm.Alike.refl U.vm) q.2.2⟩, va_recv hKc hPc (ci := 0) (q0 := 0) rfl rfl, fun U hU hW => ⟨rfl, by rw [hU]; exact hPc, va_K.moved hW.alike hKc⟩⟩ rfl rfl hl.1 rfl (lv_room (Nat.le_of_ble_eq_true rfl)) dL_law_462 ⟨Nat.le_of_ble_eq_true rfl, Nat.le_of_ble_eq_true rfl⟩) (fun rx hrx => ?_)
  refine lv_aload_n hx hb dL_law_465 rfl (lv_at hl 2 rfl) ?_
  refine lv_aload_n hx hb dL_law_466 rfl (lv_at hl 0 rfl) ?_
  refine lv_iload_n hx hb dL_law_467 rfl (lv_at hl 3 rfl) ?_
  refine lv_iconst (v := 1) hx hb dL_law_468 (by decide) ?_
  refine lv_iadd hx hb dL_law_469 ?_
  refine va_sld hx hb hX hbl hbA hS (sc_in 1 rfl (by omega) hL) dL_law_470 ?_
  refine lv_aload_n hx hb dL_law_471 rfl (lv_at hl 0 rfl) ?_
  refine lv_iload_n hx hb dL_law_472 rfl (lv_at hl 3 rfl) ?_
  refine lv_iconst (v := 2) hx hb dL_law_473 (by decide) ?_
  refine lv_iadd hx hb dL_law_474 ?_
  refine va_sld hx hb hX hbl hbA hS (sc_in 2 rfl (by omega) hL) dL_law_475 ?_
  refine lv_aload_n hx hb dL_law_476 rfl (lv_at hl 0 rfl) ?_
  refine lv_iload_n hx hb dL_law_477 rfl (lv_at hl 3 rfl) ?_
  refine lv_iconst (v := 3) hx hb dL_law_478 (by decide) ?_
  refine lv_iadd hx hb dL_law_479 ?_
  refine va_sld hx hb hX hbl hbA hS (sc_in 3 rfl (by omega) hL) dL_law_480 ?_
  refine lv_i2l hx hb dL_law_481 rfl ?_
  refine lv_bipush (v := 32) hx hb dL_law_482 (by decide) ?_
  refine lv_lshl hx hb dL_law_484 rfl ?_
  refine lv_aload_n hx hb dL_law_485 rfl (lv_at hl 0 rfl) ?_
  refine lv_iload_n hx hb dL_law_486 rfl (lv_at hl 3 rfl) ?_
  refine lv_iconst (v := 4) hx hb dL_law_487 (by decide) ?_
  refine lv_iadd hx hb dL_law_488 ?_
  refine va_sld hx hb hX hbl hbA hS (sc_in 4 rfl (by omega) hL) dL_law_489 ?_
  refine lv_i2l hx hb dL_law_490 rfl ?_
  refine lv_ldc2 (v := 4294967295) hx hb hown (hts0 (.constantLong RL 13 4294967295) (by decide +kernel)) dL_law_491 ?_
  refine lv_land hx hb dL_law_494 ?_
  refine lv_lor hx hb dL_law_495 ?_
  have hPc := hP.sub (ws' := yw bd ed w) [6, 7, 8, 9, 10, 11] rfl
  have hKc := hK.sub (tys' := yt ed) [5, 6, 7, 8, 9] rfl
  refine vp_callSl (W.runV (As := [.int (xs (nI i + 1).toNatClampNeg), .int (xs (nI i + 2).toNatClampNeg), .long (((xs (nI i + 3).toNatClampNeg).toInt64 <<< ((32 : Int32).toInt64 &&& 63)) ||| ((xs (nI i + 4).toNatClampNeg).toInt64 &&& 4294967295))]) (rest := [.long rx]) ⟨hx, hb, hml, hown, hts⟩ (yk_again l D bd ed w (xs (nI i + 1).toNatClampNeg) (xs (nI i + 2).toNatClampNeg) (((xs (nI i + 3).toNatClampNeg).toInt64 <<< ((32 : Int32).toInt64 &&& 63)) ||| ((xs (nI i + 4).toNatClampNeg).toInt64 &&& 4294967295)) (rel_h2 hR)) (cwV 3 hts gL_law_X1_again rfl rfl rfl (by decide +kernel) ⟨Nat.le_of_ble_eq_true rfl, Nat.le_of_ble_eq_true rfl⟩) ⟨fun a U g mk q => ⟨q.1, q.2.1, va_K.moved (u := U) (U := U.calling g mk a) (Vm.Alike.refl U.vm) q.2.2⟩, va_recv hKc hPc (ci := 1) (q0 := 0) rfl rfl, fun U hU hW => ⟨rfl, by rw [hU]; exact hPc, va_K.moved hW.alike hKc⟩⟩ rfl rfl hl.1 rfl (lv_room (Nat.le_of_ble_eq_true rfl)) dL_law_496 ⟨Nat.le_of_ble_eq_true rfl, Nat.le_of_ble_eq_true rfl⟩) (fun ry hry => ?_)
  refine W.lcmp hx hb dL_law_499 ?_
  have hst := step_again hR (xs (nI i + 1).toNatClampNeg) (xs (nI i + 2).toNatClampNeg) (((xs (nI i + 3).toNatClampNeg).toInt64 <<< ((32 : Int32).toInt64 &&& 63)) ||| ((xs (nI i + 4).toNatClampNeg).toInt64 &&& 4294967295))
  subst hrx
  subst hry
  refine lv_if_eq (tgt := 579) hx hb dL_law_500 (by decide) (fun _ => kont u w H locs hR hP hD hS) (fun c9 => absurd ((lg_cmp_eq _ _).mpr hst) c9)
set_option maxHeartbeats 4000000 in
set_option maxRecDepth 100000 in
theorem law_10 {p : Program} {l : Launch} {e : Env} {s : State} {m : MethodId} {below : List Frame} {meth : Method} {c : Code} {D : va_G} {b L : Nat} {xs : Nat → Int32} (hL : L ≤ 2560) (C0 : lw_At p s m meth c b L xs) {ad bd : Nat → Nat} {cd ed : Nat → ClassId} (hK : va_K D vwCl (xt cd ++ yt ed) s) {i : Nat} (hi : i + 5 ≤ L) {ls : Array Slot} (hl : lv_has ls 4 [(0, .ref b), (1, .ref (ad 0)), (2, .ref (bd 0)), (3, .int (nI i))]) (kont : lw_K p l e s m below meth c D b ad bd cd ed ls 579) : lw_K p l e s m below meth c D b ad bd cd ed ls 505 := by
  obtain ⟨hx, hb, hr, hml, hown, hts0, hX, hbl, hlocks, hgv⟩ := C0
  have hts := fun w h => hts0 w (wsL_law_in w h)
  have hA : ∀ q : Nat, s.heap.size ≤ q → (fun q : Nat => s.heap.size ≤ q) q := fun _ h => h
  have hbA : ¬ (fun q : Nat => s.heap.size ≤ q) b := Nat.not_le.mpr hbl
  intro u w H locs hR hP hD hS
  refine lv_aload_n hx hb dL_law_505 rfl (lv_at hl 1 rfl) ?_
  refine lv_aload_n hx hb dL_law_506 rfl (lv_at hl 0 rfl) ?_
  refine lv_iload_n hx hb dL_law_507 rfl (lv_at hl 3 rfl) ?_
  refine lv_iconst (v := 1) hx hb dL_law_508 (by decide) ?_
  refine lv_iadd hx hb dL_law_509 ?_
  refine va_sld hx hb hX hbl hbA hS (sc_in 1 rfl (by omega) hL) dL_law_510 ?_
  refine lv_aload_n hx hb dL_law_511 rfl (lv_at hl 0 rfl) ?_
  refine lv_iload_n hx hb dL_law_512 rfl (lv_at hl 3 rfl) ?_
  refine lv_iconst (v := 2) hx hb dL_law_513 (by decide) ?_
  refine lv_iadd hx hb dL_law_514 ?_
  refine va_sld hx hb hX hbl hbA hS (sc_in 2 rfl (by omega) hL) dL_law_515 ?_
  refine lv_aload_n hx hb dL_law_516 rfl (lv_at hl 0 rfl) ?_
  refine lv_iload_n hx hb dL_law_517 rfl (lv_at hl 3 rfl) ?_
  refine lv_iconst (v := 3) hx hb dL_law_518 (by decide) ?_
  refine lv_iadd hx hb dL_law_519 ?_
  refine va_sld hx hb hX hbl hbA hS (sc_in 3 rfl (by omega) hL) dL_law_520 ?_
  refine lv_i2l hx hb dL_law_521 rfl ?_
  refine lv_bipush (v := 32) hx hb dL_law_522 (by decide) ?_
  refine lv_lshl hx hb dL_law_524 rfl ?_
  refine lv_aload_n hx hb dL_law_525 rfl (lv_at hl 0 rfl) ?_
  refine lv_iload_n hx hb dL_law_526 rfl (lv_at hl 3 rfl) ?_
  refine lv_iconst (v := 4) hx hb dL_law_527 (by decide) ?_
  refine lv_iadd hx hb dL_law_528 ?_
  refine va_sld hx hb hX hbl hbA hS (sc_in 4 rfl (by omega) hL) dL_law_529 ?_
  refine lv_i2l hx hb dL_law_530 rfl ?_
  refine lv_ldc2 (v := 4294967295) hx hb hown (hts0 (.constantLong RL 13 4294967295) (by decide +kernel)) dL_law_531 ?_
  refine lv_land hx hb dL_law_534 ?_
  refine lv_lor hx hb dL_law_535 ?_
  have hPc := hP.sub (ws' := xw ad cd u) [0, 1, 2, 3, 4, 5] rfl
  have hKc := hK.sub (tys' := xt cd) [0, 1, 2, 3, 4] rfl
  refine vp_callSl (W.runV (As := [.int (xs (nI i + 1).toNatClampNeg), .int (xs (nI i + 2).toNatClampNeg), .long (((xs (nI i + 3).toNatClampNeg).toInt64 <<< ((32 : Int32).toInt64 &&& 63)) ||| ((xs (nI i + 4).toNatClampNeg).toInt64 &&& 4294967295))]) (rest := []) ⟨hx, hb, hml, hown, hts⟩ (xk_log l D ad cd u (xs (nI i + 1).toNatClampNeg) (xs (nI i + 2).toNatClampNeg) (((xs (nI i + 3).toNatClampNeg).toInt64 <<< ((32 : Int32).toInt64 &&& 63)) ||| ((xs (nI i + 4).toNatClampNeg).toInt64 &&& 4294967295))) (cwV 3 hts gL_law_X0_log rfl rfl rfl (by decide +kernel) ⟨Nat.le_of_ble_eq_true rfl, Nat.le_of_ble_eq_true rfl⟩) ⟨fun a U g mk q => ⟨q.1, q.2.1, va_K.moved (u := U) (U := U.calling g mk a) (Vm.Alike.refl U.vm) q.2.2⟩, va_recv hKc hPc (ci := 0) (q0 := 0) rfl rfl, fun U hU hW => ⟨rfl, by rw [hU]; exact hPc, va_K.moved hW.alike hKc⟩⟩ rfl rfl hl.1 rfl (lv_room (Nat.le_of_ble_eq_true rfl)) dL_law_536 ⟨Nat.le_of_ble_eq_true rfl, Nat.le_of_ble_eq_true rfl⟩) (fun rx hrx => ?_)
  refine lv_aload_n hx hb dL_law_539 rfl (lv_at hl 2 rfl) ?_
  refine lv_aload_n hx hb dL_law_540 rfl (lv_at hl 0 rfl) ?_
  refine lv_iload_n hx hb dL_law_541 rfl (lv_at hl 3 rfl) ?_
  refine lv_iconst (v := 1) hx hb dL_law_542 (by decide) ?_
  refine lv_iadd hx hb dL_law_543 ?_
  refine va_sld hx hb hX hbl hbA hS (sc_in 1 rfl (by omega) hL) dL_law_544 ?_
  refine lv_aload_n hx hb dL_law_545 rfl (lv_at hl 0 rfl) ?_
  refine lv_iload_n hx hb dL_law_546 rfl (lv_at hl 3 rfl) ?_
  refine lv_iconst (v := 2) hx hb dL_law_547 (by decide) ?_
  refine lv_iadd hx hb dL_law_548 ?_
  refine va_sld hx hb hX hbl hbA hS (sc_in 2 rfl (by omega) hL) dL_law_549 ?_
  refine lv_aload_n hx hb dL_law_550 rfl (lv_at hl 0 rfl) ?_
  refine lv_iload_n hx hb dL_law_551 rfl (lv_at hl 3 rfl) ?_
  refine lv_iconst (v := 3) hx hb dL_law_552 (by decide) ?_
  refine lv_iadd hx hb dL_law_553 ?_
  refine va_sld hx hb hX hbl hbA hS (sc_in 3 rfl (by omega) hL) dL_law_554 ?_
  refine lv_i2l hx hb dL_law_555 rfl ?_
  refine lv_bipush (v := 32) hx hb dL_law_556 (by decide) ?_
  refine lv_lshl hx hb dL_law_558 rfl ?_
  refine lv_aload_n hx hb dL_law_559 rfl (lv_at hl 0 rfl) ?_
  refine lv_iload_n hx hb dL_law_560 rfl (lv_at hl 3 rfl) ?_
  refine lv_iconst (v := 4) hx hb dL_law_561 (by decide) ?_
  refine lv_iadd hx hb dL_law_562 ?_
  refine va_sld hx hb hX hbl hbA hS (sc_in 4 rfl (by omega) hL) dL_law_563 ?_
  refine lv_i2l hx hb dL_law_564 rfl ?_
  refine lv_ldc2 (v := 4294967295) hx hb hown (hts0 (.constantLong RL 13 4294967295) (by decide +kernel)) dL_law_565 ?_
  refine lv_land hx hb dL_law_568 ?_
  refine lv_lor hx hb dL_law_569 ?_
  have hPc := hP.sub (ws' := yw bd ed w) [6, 7, 8, 9, 10, 11] rfl
  have hKc := hK.sub (tys' := yt ed) [5, 6, 7, 8, 9] rfl
  refine vp_callSl (W.runV (As := [.int (xs (nI i + 1).toNatClampNeg), .int (xs (nI i + 2).toNatClampNeg), .long (((xs (nI i + 3).toNatClampNeg).toInt64 <<< ((32 : Int32).toInt64 &&& 63)) ||| ((xs (nI i + 4).toNatClampNeg).toInt64 &&& 4294967295))]) (rest := [.long rx]) ⟨hx, hb, hml, hown, hts⟩ (yk_log l D bd ed w (xs (nI i + 1).toNatClampNeg) (xs (nI i + 2).toNatClampNeg) (((xs (nI i + 3).toNatClampNeg).toInt64 <<< ((32 : Int32).toInt64 &&& 63)) ||| ((xs (nI i + 4).toNatClampNeg).toInt64 &&& 4294967295)) (rel_h2 hR)) (cwV 3 hts0 gT_law_X1_log rfl rfl rfl (by decide +kernel) ⟨Nat.le_of_ble_eq_true rfl, Nat.le_of_ble_eq_true rfl⟩) ⟨fun a U g mk q => ⟨q.1, q.2.1, va_K.moved (u := U) (U := U.calling g mk a) (Vm.Alike.refl U.vm) q.2.2⟩, va_recv hKc hPc (ci := 1) (q0 := 0) rfl rfl, fun U hU hW => ⟨rfl, by rw [hU]; exact hPc, va_K.moved hW.alike hKc⟩⟩ rfl rfl hl.1 rfl (lv_room (Nat.le_of_ble_eq_true rfl)) dL_law_570 ⟨Nat.le_of_ble_eq_true rfl, Nat.le_of_ble_eq_true rfl⟩) (fun ry hry => ?_)
  refine W.lcmp hx hb dL_law_573 ?_
  have hst := step_log hR (xs (nI i + 1).toNatClampNeg) (xs (nI i + 2).toNatClampNeg) (((xs (nI i + 3).toNatClampNeg).toInt64 <<< ((32 : Int32).toInt64 &&& 63)) ||| ((xs (nI i + 4).toNatClampNeg).toInt64 &&& 4294967295))
  subst hrx
  subst hry
  refine lv_if_eq (tgt := 579) hx hb dL_law_574 (by decide) (fun _ => kont u w H locs hR hP hD hS) (fun c9 => absurd ((lg_cmp_eq _ _).mpr hst) c9)
end
section
set_option maxHeartbeats 4000000 in
set_option maxRecDepth 100000 in
/-- THE LAW'S LOOP: at its head, with i ints read, class and reference are in states that go together -/
theorem law_loop {p : Program} {l : Launch} {e : Env} {s : State} {m : MethodId} {below : List Frame} {meth : Method} {c : Code} {D : va_G} {b L : Nat} {xs : Nat → Int32} (hL : L ≤ 2560) (C0 : lw_At p s m meth c b L xs) {ad bd : Nat → Nat} {cd ed : Nat → ClassId} (hK : va_K D vwCl (xt cd ++ yt ed) s) :
    ∀ (n i : Nat), i ≤ L → L + 1 ≤ i + n → ∀ (ls : Array Slot), lv_has ls 4 [(0, .ref b), (1, .ref (ad 0)), (2, .ref (bd 0)), (3, .int (nI i))] → lw_K p l e s m below meth c D b ad bd cd ed ls 18 := by
  obtain ⟨hx, hb, hr, hml, hown, hts0, hX, hbl, hlocks, hgv⟩ := id C0
  have hbA : ¬ (fun q : Nat => s.heap.size ≤ q) b := Nat.not_le.mpr hbl
  intro n
  induction n with
  | zero =>
    intro i h1 h2
    exact absurd h2 (by omega)
  | succ n ih =>
    intro i hi hin ls hl u w H locs hR hP hD hS
    refine lv_iload_n hx hb dL_law_18 rfl (lv_at hl 3 rfl) ?_
    refine lv_aload_n hx hb dL_law_19 rfl (lv_at hl 0 rfl) ?_
    refine va_slen hx hb hX hbl hbA hS dL_law_20 ?_
    refine lv_iconst (v := 5) hx hb dL_law_21 (by decide) ?_
    refine lv_isub hx hb dL_law_22 ?_
    refine lv_icmp_gt (tgt := 585) hx hb dL_law_23 (by decide) (fun c_1 => ?_) (fun c_1 => ?_)
    · refine lv_iconst (v := 1) hx hb dL_law_585 (by decide) ?_
      refine va_forget (fun q hq => hS.2.2 q hq) ?_
      exact lw_ret hx hb hr hlocks dL_law_586
    · have h5 : i + 5 ≤ L := sc_more hi hL c_1
      refine lv_aload_n hx hb dL_law_26 rfl (lv_at hl 0 rfl) ?_
      refine lv_iload_n hx hb dL_law_27 rfl (lv_at hl 3 rfl) ?_
      refine va_sld hx hb hX hbl hbA hS (vp_in_nI (by omega) (by omega)) dL_law_28 ?_
      refine lv_bipush (v := 15) hx hb dL_law_29 (by decide) ?_
      refine lv_iand hx hb dL_law_31 ?_
      refine lv_topi (fun z _ => ?_)
      have kont : lw_K p l e s m below meth c D b ad bd cd ed ls 579 := by
        intro u w H locs hR hP hD hS
        refine lv_iinc (v := nI (i + 5)) (lv' := [(3, .int (nI (i + 5))), (0, .ref b), (1, .ref (ad 0)), (2, .ref (bd 0))]) hx hb dL_law_579 hl (k := 3) rfl (sc_next i) (by decide) rfl (fun ls hl => ?_)
        refine lv_goto (tgt := 18) hx hb dL_law_582 (by decide) ?_
        exact ih (i + 5) h5 (by omega) ls (lv_sub hl [1, 2, 3, 0] rfl) u w H locs hR hP hD hS
      by_cases c_00 : z = 0
      · refine lv_tableIn (tgt := 92) hx hb dL_law_32 (by rw [c_00]; decide) (by rw [c_00]; decide) (by rw [c_00]; rfl) (by decide) ?_
        exact law_0 hL C0 hK h5 hl kont u w H locs hR hP hD hS
      by_cases c_10 : z = 1
      · refine lv_tableIn (tgt := 145) hx hb dL_law_32 (by rw [c_10]; decide) (by rw [c_10]; decide) (by rw [c_10]; rfl) (by decide) ?_
        exact law_1 hL C0 hK h5 hl kont u w H locs hR hP hD hS
      by_cases c_20 : z = 2
      · refine lv_tableIn (tgt := 208) hx hb dL_law_32 (by rw [c_20]; decide) (by rw [c_20]; decide) (by rw [c_20]; rfl) (by decide) ?_
        exact law_2 hL C0 hK h5 hl kont u w H locs hR hP hD hS
      by_cases c_30 : z = 3
      · refine lv_tableIn (tgt := 241) hx hb dL_law_32 (by rw [c_30]; decide) (by rw [c_30]; decide) (by rw [c_30]; rfl) (by decide) ?_
        exact law_3 hL C0 hK h5 hl kont u w H locs hR hP hD hS
      by_cases c_40 : z = 4
      · refine lv_tableIn (tgt := 264) hx hb dL_law_32 (by rw [c_40]; decide) (by rw [c_40]; decide) (by rw [c_40]; rfl) (by decide) ?_
        exact law_4 hL C0 hK h5 hl kont u w H locs hR hP hD hS
      by_cases c_50 : z = 5
      · refine lv_tableIn (tgt := 338) hx hb dL_law_32 (by rw [c_50]; decide) (by rw [c_50]; decide) (by rw [c_50]; rfl) (by decide) ?_
        exact law_5 hL C0 hK h5 hl kont u w H locs hR hP hD hS
      by_cases c_60 : z = 6
      · refine lv_tableIn (tgt := 362) hx hb dL_law_32 (by rw [c_60]; decide) (by rw [c_60]; decide) (by rw [c_60]; rfl) (by decide) ?_
        exact law_6 hL C0 hK h5 hl kont u w H locs hR hP hD hS
      by_cases c_70 : z = 7
      · refine lv_tableIn (tgt := 385) hx hb dL_law_32 (by rw [c_70]; decide) (by rw [c_70]; decide) (by rw [c_70]; rfl) (by decide) ?_
        exact law_7 hL C0 hK h5 hl kont u w H locs hR hP hD hS
      by_cases c_80 : z = 8
      · refine lv_tableIn (tgt := 408) hx hb dL_law_32 (by rw [c_80]; decide) (by rw [c_80]; decide) (by rw [c_80]; rfl) (by decide) ?_
        exact law_8 hL C0 hK h5 hl kont u w H locs hR hP hD hS
      by_cases c_90 : z = 9
      · refine lv_tableIn (tgt := 431) hx hb dL_law_32 (by rw [c_90]; decide) (by rw [c_90]; decide) (by rw [c_90]; rfl) (by decide) ?_
        exact law_9 hL C0 hK h5 hl kont u w H locs hR hP hD hS
      by_cases c_100 : z = 10
      · refine lv_tableIn (tgt := 505) hx hb dL_law_32 (by rw [c_100]; decide) (by rw [c_100]; decide) (by rw [c_100]; rfl) (by decide) ?_
        exact law_10 hL C0 hK h5 hl kont u w H locs hR hP hD hS
      refine lv_tableOut (tgt := 579) hx hb dL_law_32 (sw_out11 c_00 c_10 c_20 c_30 c_40 c_50 c_60 c_70 c_80 c_90 c_100) (by decide) ?_
      exact kont u w H locs hR hP hD hS
set_option maxHeartbeats 4000000 in
set_option maxRecDepth 100000 in
/-- THE LAW, from its entry -/
theorem whole_start {p : Program} {e : Env} {s : State} {m : MethodId} {below : List Frame} {meth : Method} {c : Code} (l : Launch) {b L : Nat} {xs : Nat → Int32} (hL : L ≤ 2560) (C0 : lw_At p s m meth c b L xs) : W p l e room_1 s m #[Value.ref b] below meth c s.heap [] 0 0 (lw_Z below #[Value.ref b] s) (entryFrame m ([Value.ref b] : List Value).toArray 4) := by
  obtain ⟨hx, hb, hr, hml, hown, hts0, hX, hbl, hlocks, hgv⟩ := id C0
  have hts := fun w h => hts0 w (wsL_law_in w h)
  have hA : ∀ q : Nat, s.heap.size ≤ q → (fun q : Nat => s.heap.size ≤ q) q := fun _ h => h
  obtain ⟨c0, iS0, hKn0⟩ := u_known (C := RX0) (T := TX0) (N := 14) (n := 14) hts inlX0 (hts (.instantiable RX0 14) (by decide +kernel))
  obtain ⟨c1, iS1, hKn1⟩ := u_known (C := RX1) (T := TX1) (N := 13) (n := 13) hts inlX1 (hts (.instantiable RX1 13) (by decide +kernel))
  obtain ⟨D, hKc⟩ : ∃ (D : va_G), ∀ (k : Nat) (q : vw_C), vwCl[k]? = some q → u_Kn s q.1 q.2.1 q.2.2 (D.1 k) (D.2 k) := by
    refine ⟨(fun k => if k = 0 then c0 else c1, fun k => if k = 0 then iS0 else iS1), ?_⟩
    intro k q hq
    match k, hq with
    | 0, hq => cases hq; exact hKn0
    | 1, hq => cases hq; exact hKn1
    | k + 2, hq => simp [vwCl] at hq
  have hS : va_S (fun q : Nat => s.heap.size ≤ q) s.heap s.heap [] := va_S.rf
  have hK : va_K D vwCl [] s := ⟨hKc, fun k q h => by simp at h⟩
  have hP : va_P D vwCl [] s.heap := fun k q h => by simp at h
  have hD : va_D (fun q : Nat => s.heap.size ≤ q) [] := ⟨fun i j p q h => by simp at h, fun k q h => by simp at h⟩
  have hl := lv_entry ([.ref b]) (n := 4) (Nat.le_of_ble_eq_true rfl)
  rw [lg_entry_eq]
  generalize (lg_sl ([.ref b]) ++ List.replicate (4 - (lg_sl ([.ref b])).length) Slot.unset).toArray = ls at hl ⊢
  have hl : lv_has ls 4 [(0, .ref b)] := hl
  refine va_new (D := D) (cl := vwCl) (ci := 0) (fs := [.null, .null, .null, .null, .null, .int 0, .long 0, .long 0, .long 0, .long 0, .int 0, .int 0, .int 0, .long 0]) (C := RX0) (T := TX0) (N := 14) hx hb hts inlX0 tyX0 tyX0_ok hown (hts (.classLink RL 7 RX0) (by decide +kernel)) (hts (.instantiable RX0 14) (by decide +kernel)) (hts (.initialized RX0) (by decide +kernel)) hK hP hD hS hA rfl (fun j hj => by rcases (show j = 0 ∨ j = 1 ∨ j = 2 ∨ j = 3 ∨ j = 4 ∨ j = 5 ∨ j = 6 ∨ j = 7 ∨ j = 8 ∨ j = 9 ∨ j = 10 ∨ j = 11 ∨ j = 12 ∨ j = 13 by omega) with rfl | rfl | rfl | rfl | rfl | rfl | rfl | rfl | rfl | rfl | rfl | rfl | rfl | rfl <;> rfl) (Nat.le_of_ble_eq_true rfl) (Nat.le_of_ble_eq_true rfl) dL_law_0 (fun qx H hP hD hS => ?_)
  have hP : va_P D vwCl ([(qx, .inr (0, [.null, .null, .null, .null, .null, .int 0, .long 0, .long 0, .long 0, .long 0, .int 0, .int 0, .int 0, .long 0]))]) H := hP
  have hD : va_D (fun q : Nat => s.heap.size ≤ q) ([(qx, .inr (0, [.null, .null, .null, .null, .null, .int 0, .long 0, .long 0, .long 0, .long 0, .int 0, .int 0, .int 0, .long 0]))]) := hD
  refine W.widen (k := 1) (n := 14) (by decide) (by decide) ?_
  refine lv_dup hx hb dL_law_3 rfl ?_
  have hPc := hP.sub (ws' := [(qx, .inr (0, [.null, .null, .null, .null, .null, .int 0, .long 0, .long 0, .long 0, .long 0, .int 0, .int 0, .int 0, .long 0]))]) [0] rfl
  have hDc := hD.sub (ws' := [(qx, .inr (0, [.null, .null, .null, .null, .null, .int 0, .long 0, .long 0, .long 0, .long 0, .int 0, .int 0, .int 0, .long 0]))]) [0] (by decide) rfl
  have hKc := hK.sub (tys' := []) [] rfl
  have hFc := va_free (wc := [(qx, .inr (0, [.null, .null, .null, .null, .null, .int 0, .long 0, .long 0, .long 0, .long 0, .int 0, .int 0, .int 0, .long 0]))]) hD hS hA [0] rfl
  refine va_callv (va_runI (As := []) (rest := [.ref qx]) ⟨hx, hb, hml, hown, hts⟩ (xk_init l D qx H.size) (cwI 0 hts gL_law_X0_init rfl rfl rfl (hts (.initialized RX0) (by decide +kernel)) (hts (.methodLink RL 9 yX0_init) (by decide +kernel)) (hts (.instanceMethod yX0_init) (by decide +kernel)) rfl (by decide +kernel) ⟨Nat.le_of_ble_eq_true rfl, Nat.le_of_ble_eq_true rfl⟩) ⟨fun a U g mk q => ⟨q.1, q.2.1, q.2.2.1, va_K.moved (u := U) (U := U.calling g mk a) (Vm.Alike.refl U.vm) q.2.2.2.1, q.2.2.2.2⟩, fun U hU hW => ⟨rfl, by rw [hU], by rw [hU]; exact hPc, va_K.moved hW.alike hKc, hDc.weaken (fun _ _ _ _ => trivial)⟩⟩ rfl rfl hl.1 rfl (lv_room (Nat.le_of_ble_eq_true rfl)) dL_law_4 ⟨Nat.le_of_ble_eq_true rfl, Nat.le_of_ble_eq_true rfl⟩) hS (fun q _ h => hFc q h) hFc (fun u t H1 locs ht hvm hw hB hz1 hk1 hS => ?_)
  subst hw
  obtain ⟨ad, cd, had, hP1, hK1, hD1⟩ := hB
  rw [ht] at hP1
  have hK1 := va_K.moved hvm.symm hK1
  obtain ⟨hP, hD⟩ := va_join (wr := []) (w1 := xw ad cd x_new) hP hD [0] [] rfl rfl (by decide) (by decide) hk1 hFc hP1 hD1
  have hK := hK1
  generalize H1 = H at hP hS ⊢
  have hP : va_P D vwCl (xw ad cd x_new) H := hP
  have hD : va_D (fun q : Nat => s.heap.size ≤ q) (xw ad cd x_new) := hD
  have hK : va_K D vwCl (xt cd) s := hK
  refine W.widen (k := 6) (n := 1074) (by decide) (by decide) ?_
  rw [← had]
  refine lv_astore_n (lv' := [(1, .ref (ad 0)), (0, .ref b)]) hx hb dL_law_7 rfl hl (by decide) rfl (fun ls hl => ?_)
  refine va_new (D := D) (cl := vwCl) (ci := 1) (fs := [.null, .int 0, .null, .null, .null, .null, .long 0, .long 0, .long 0, .int 0, .int 0, .int 0, .long 0]) (C := RX1) (T := TX1) (N := 13) hx hb hts inlX1 tyX1 tyX1_ok hown (hts (.classLink RL 10 RX1) (by decide +kernel)) (hts (.instantiable RX1 13) (by decide +kernel)) (hts (.initialized RX1) (by decide +kernel)) hK hP hD hS hA rfl (fun j hj => by rcases (show j = 0 ∨ j = 1 ∨ j = 2 ∨ j = 3 ∨ j = 4 ∨ j = 5 ∨ j = 6 ∨ j = 7 ∨ j = 8 ∨ j = 9 ∨ j = 10 ∨ j = 11 ∨ j = 12 by omega) with rfl | rfl | rfl | rfl | rfl | rfl | rfl | rfl | rfl | rfl | rfl | rfl | rfl <;> rfl) (Nat.le_of_ble_eq_true rfl) (Nat.le_of_ble_eq_true rfl) dL_law_8 (fun qy H hP hD hS => ?_)
  have hP : va_P D vwCl (xw ad cd x_new ++ [(qy, .inr (1, [.null, .int 0, .null, .null, .null, .null, .long 0, .long 0, .long 0, .int 0, .int 0, .int 0, .long 0]))]) H := hP
  have hD : va_D (fun q : Nat => s.heap.size ≤ q) (xw ad cd x_new ++ [(qy, .inr (1, [.null, .int 0, .null, .null, .null, .null, .long 0, .long 0, .long 0, .int 0, .int 0, .int 0, .long 0]))]) := hD
  refine W.widen (k := 7) (n := 1087) (by decide) (by decide) ?_
  refine lv_dup hx hb dL_law_11 rfl ?_
  have hPc := hP.sub (ws' := [(qy, .inr (1, [.null, .int 0, .null, .null, .null, .null, .long 0, .long 0, .long 0, .int 0, .int 0, .int 0, .long 0]))]) [6] rfl
  have hDc := hD.sub (ws' := [(qy, .inr (1, [.null, .int 0, .null, .null, .null, .null, .long 0, .long 0, .long 0, .int 0, .int 0, .int 0, .long 0]))]) [6] (by decide) rfl
  have hKc := hK.sub (tys' := []) [] rfl
  have hFc := va_free (wc := [(qy, .inr (1, [.null, .int 0, .null, .null, .null, .null, .long 0, .long 0, .long 0, .int 0, .int 0, .int 0, .long 0]))]) hD hS hA [6] rfl
  refine va_callv (va_runI (As := []) (rest := [.ref qy]) ⟨hx, hb, hml, hown, hts⟩ (yk_init l D qy H.size) (cwI 0 hts gL_law_X1_init rfl rfl rfl (hts (.initialized RX1) (by decide +kernel)) (hts (.methodLink RL 12 yX1_init) (by decide +kernel)) (hts (.instanceMethod yX1_init) (by decide +kernel)) rfl (by decide +kernel) ⟨Nat.le_of_ble_eq_true rfl, Nat.le_of_ble_eq_true rfl⟩) ⟨fun a U g mk q => ⟨q.1, q.2.1, q.2.2.1, va_K.moved (u := U) (U := U.calling g mk a) (Vm.Alike.refl U.vm) q.2.2.2.1, q.2.2.2.2⟩, fun U hU hW => ⟨rfl, by rw [hU], by rw [hU]; exact hPc, va_K.moved hW.alike hKc, hDc.weaken (fun _ _ _ _ => trivial)⟩⟩ rfl rfl hl.1 rfl (lv_room (Nat.le_of_ble_eq_true rfl)) dL_law_12 ⟨Nat.le_of_ble_eq_true rfl, Nat.le_of_ble_eq_true rfl⟩) hS (fun q _ h => hFc q h) hFc (fun u t H1 locs ht hvm hw hB hz1 hk1 hS => ?_)
  subst hw
  obtain ⟨bd, ed, had, hP1, hK1, hD1⟩ := hB
  rw [ht] at hP1
  have hK1 := va_K.moved hvm.symm hK1
  obtain ⟨hP, hD⟩ := va_join (wr := xw ad cd x_new) (w1 := yw bd ed y_new) hP hD [6] [0, 1, 2, 3, 4, 5] rfl rfl (by decide) (by decide) hk1 hFc hP1 hD1
  have hK := hK.app hK1
  generalize H1 = H at hP hS ⊢
  have hP : va_P D vwCl (xw ad cd x_new ++ yw bd ed y_new) H := hP
  have hD : va_D (fun q : Nat => s.heap.size ≤ q) (xw ad cd x_new ++ yw bd ed y_new) := hD
  have hK : va_K D vwCl (xt cd ++ yt ed) s := hK
  refine W.widen (k := 12) (n := 2177) (by decide) (by decide) ?_
  rw [← had]
  refine lv_astore_n (lv' := [(2, .ref (bd 0)), (1, .ref (ad 0)), (0, .ref b)]) hx hb dL_law_15 rfl hl (by decide) rfl (fun ls hl => ?_)
  refine lv_iconst (v := 0) hx hb dL_law_16 (by decide) ?_
  refine lv_istore_n (lv' := [(3, .int 0), (2, .ref (bd 0)), (1, .ref (ad 0)), (0, .ref b)]) hx hb dL_law_17 rfl hl (by decide) rfl (fun ls hl => ?_)
  exact law_loop hL C0 hK (L + 1) 0 (Nat.zero_le L) (by omega) ls (lv_sub hl [3, 2, 1, 0] rfl) x_new y_new _ _ rel_new hP hD hS
end
section
-- ===== YOUR PART ENDS =====
set_option maxHeartbeats 4000000 in
theorem lw_walk (l : Launch) (b : Addr) (xs : List Int32) : MetFree l x (headSpec (Jvm.Cond.code x code maxLocals ret :: tables_1) room_1) (lw_P b xs) (fun _ _ _ _ _ => True) lw_Q := by
  refine MetFree.of_bodyS (code := code) (maxLocals := maxLocals) (ret := ret) (by decide) ?_ ?_
  · intro args s m h hn
    obtain ⟨meth, c, h1, h2, h3, h4, h5, h6, -, -⟩ := Cond.code_spec hn (atoms_spec (ws := Jvm.Cond.code x code maxLocals ret :: tables_1) h _ List.mem_cons_self)
    exact ⟨meth, c, h1, h2, h3, h4, h5, h6⟩
  · intro p e s m args below meth c s₁ B hml0 hP _
    obtain ⟨rfl, hx, hbd, hgv⟩ := hP
    obtain ⟨scr, harrAt, hlist, hof, hsmall⟩ := hx
    obtain ⟨hcb, hkn, -, -⟩ := State.arrayAt?_spec harrAt
    have hown : s.vm.findClass R_law = some m.cls := findClass_of_methodNamed B.named
    have hts0 : ∀ c ∈ (Jvm.Cond.code x code maxLocals ret :: tables_1), c.before #[Value.ref b] s = true := atoms_spec (ws := Jvm.Cond.code x code maxLocals ret :: tables_1) B.pre
    have hts : ∀ w ∈ lw_tbl, w.before #[Value.ref b] s = true := k2_hts_sels lw_privs (fun w hw => hts0 w (List.mem_cons_of_mem _ hw)) lw_privs_ok
    have hml : c.maxLocals = 4 := B.maxLocals_eq (hts0 _ List.mem_cons_self)
    have X₀ : Stand p l e room_1 s m #[Value.ref b] below meth c s₁ [] 0 0 := Stand.of_body B
    have hh0 : s₁.heap = s.heap := by rw [B.state]; rfl
    have hsz : scr.slots.size = xs.length := by rw [← Array.length_toList, hlist, List.length_map]
    have hval : ∀ j : Nat, j < xs.length → scr.slots[j]? = some (.int (xs.getD j 0)) := fun j hj => by
      rw [← Array.getElem?_toList, hlist]
      simp [hj]
    have hbl : b < s.heap.size := (Array.getElem?_eq_some_iff.mp hcb).1
    have hX : va_X b xs.length (fun j => xs.getD j 0) s s.heap := ⟨scr, hcb, hof, hkn, hsz, hval⟩
    have K : W p l e room_1 s m #[Value.ref b] below meth c s₁.heap [] 0 0 (lw_Z below #[Value.ref b] s) (entryFrame m ([Value.ref b] : List Value).toArray 4) := by
      rw [hh0]
      exact whole_start l hbd ⟨B.exec, B.bytes, B.returns, hml, hown, hts, hX, hbl, B.notSynchronized, hgv⟩
    obtain ⟨t, a1, o, b1, b2, b3⟩ := K s₁ rfl X₀
    exact ⟨t, o, a1, b1, b2, b3⟩
theorem lw_pre_spec {args : Array Value} {s : State} (h : (Jvm.Cond.and given_1 narrow_1).before args s = true) (hr : rest_1_c.before args s = true) : ∃ (b : Addr) (xs : List Int32), lw_P b xs args s := by
  have hs := flat_of_before _ h
  have hq := flat_of_before _ hr
  have hc : (Cond.count 1).before args s = true := hs _ (by decide +kernel)
  have harr : (Cond.arrayOf (.arg 0) .int).before args s = true := hs _ (by decide +kernel)
  have hle : (Cond.le (.length (.arg 0)) (.int 2560)).before args s = true := hs _ (by decide +kernel)
  have hlen : (Cond.isInt (.length (.arg 0))).before args s = true := hq _ (by decide +kernel)
  have hall : (Cond.all (.arg 0) (.isInt (.elem (.arg 0) (.index 0)))).before args s = true := hq _ (by decide +kernel)
  obtain ⟨b, xs, hb, hx⟩ := State.ints_of_pre rfl harr hlen hall
  have hsm : xs.length < 2 ^ 31 := hx.choose_spec.2.2.2
  have hev : (Term.length (.arg 0)).eval args s none [] s = some (.int xs.length.toInt32) := hx.length_eval hb
  have hv := Cond.le_ints hev (show (Term.int 2560).eval args s none [] s = some (.int 2560) from rfl)
  have hd : xs.length.toInt32 ≤ 2560 := by
    simpa [Cond.before, Cond.holds, hv] using hle
  have hN : xs.length ≤ 2560 := (Int32.ofNat_le_ofNat hsm (by decide)).mp (show Int32.ofNat xs.length ≤ Int32.ofNat 2560 from hd)
  exact ⟨b, xs, Cond.one_arg hc (show args[0]? = some (.ref b) from hb), hx, hN, h⟩
theorem lw_comes (l : Launch) : Comes l x (Jvm.Cond.code x code maxLocals ret :: tables_1) room_1 (fun tb e args s => Calls_1 tb e args s ∧ rest_1 tb e args s ∧ Pre_1 tb e args s)
    (fun _ _ args s o t => lw_Q args s o t) := by
  intro p e ha hc hk s m args below hf hfit hheap happ hpre
  obtain ⟨b, xs, hP⟩ := lw_pre_spec hpre.2.2 hpre.2.1
  obtain ⟨k, o, h1, h2, h3, hQ⟩ := lw_walk l b xs p e ha hc hk s m args below hf ((Spec.applies_iff_loose hf).mp happ).1 hP trivial
  exact ⟨k, o, h1, h2, h3, hQ⟩
theorem lw_frame {s t : State} {o : Outcome} {args : Array Value} (h : Framed s o t [] 12 2177) :
    Framed s o t (fieldLocs frame_1_writes args s ++ arrayLocs frame_1_arrays args s ++ staticLocs frame_1_statics s) 12 2177 := h
theorem lw_limb (L : Cond) (hL : ∀ (args : Array Value) (s t : State), L.after args s (.returned (some (.int 1))) t = true) :
    ArmFor flags0 classFile x code maxLocals ret World_1 tables_1 room_1 Calls_1 rest_1 Pre_1
      (fun tb e a s o t => postC L tb e a s o t ∧ Framed s o t (fieldLocs frame_1_writes a s ++ arrayLocs frame_1_arrays a s ++ staticLocs frame_1_statics s) 12 2177) := by
  intro l _ _ _ p e ha hc hk s m args below hf hfit hheap happ hpre
  obtain ⟨k, o, h1, h2, h3, rfl, hF⟩ := lw_comes l p e ha hc hk s m args below hf hfit hheap happ hpre
  exact ⟨k, _, h1, h2, h3, hL args s _, lw_frame hF⟩
theorem i_vc : Claimed_1_1 ∧ Claimed_1_2 := ⟨lw_limb limb_1_1 (fun args s t => by simp [limb_1_1, Cond.after, Cond.holds, Cond.value]), lw_limb limb_1_2 (fun args s t => Cond.after_iff.mpr (by
  first | (rw [show limb_1_2 = Cond.eq .result (.int 1) from rfl, Cond.eq_ints (x := 1) (y := 1) rfl rfl]; simp; done) | (simp [limb_1_2, Cond.value, Term.eval]; done)))⟩
end
