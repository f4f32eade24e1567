-- ===== PART A: goes FIRST, ahead of the names: the tables' words, and 'selects' of the private methods out of them =====
/-- a private method of a class that the tables say can be made, by its rows of tables_1 -/
def lw_okq (q : MethodName × Nat) : Prop := (q.1.cls ≠ "java/lang/invoke/MethodHandle" ∧ q.1.cls ≠ "java/lang/invoke/VarHandle") ∧ Cond.instantiable q.1.cls q.2 ∈ tables_1 ∧ Cond.privateMethod q.1 ∈ tables_1 ∧ Cond.instanceMethod q.1 ∈ tables_1
theorem lw_p0 : lw_okq (⟨"PostDesk2", "refusalOf", "(II)J"⟩, 14) := ⟨⟨by decide +kernel, by decide +kernel⟩, List.mem_of_getElem? (i := 4) (by decide +kernel), List.mem_of_getElem? (i := 86) (by decide +kernel), List.mem_of_getElem? (i := 87) (by decide +kernel)⟩
theorem lw_p1 : lw_okq (⟨"PostDesk2", "replyTo", "(JIJ)J"⟩, 14) := ⟨⟨by decide +kernel, by decide +kernel⟩, List.mem_of_getElem? (i := 4) (by decide +kernel), List.mem_of_getElem? (i := 100) (by decide +kernel), List.mem_of_getElem? (i := 101) (by decide +kernel)⟩
theorem lw_p2 : lw_okq (⟨"PostDesk2", "logBehind", "(JIIJ)J"⟩, 14) := ⟨⟨by decide +kernel, by decide +kernel⟩, List.mem_of_getElem? (i := 4) (by decide +kernel), List.mem_of_getElem? (i := 105) (by decide +kernel), List.mem_of_getElem? (i := 106) (by decide +kernel)⟩
theorem lw_p3 : lw_okq (⟨"PostDesk2", "settle", "(JII)V"⟩, 14) := ⟨⟨by decide +kernel, by decide +kernel⟩, List.mem_of_getElem? (i := 4) (by decide +kernel), List.mem_of_getElem? (i := 112) (by decide +kernel), List.mem_of_getElem? (i := 113) (by decide +kernel)⟩
theorem lw_p4 : lw_okq (⟨"PostDesk2Model", "way", "(II)I"⟩, 13) := ⟨⟨by decide +kernel, by decide +kernel⟩, List.mem_of_getElem? (i := 137) (by decide +kernel), List.mem_of_getElem? (i := 217) (by decide +kernel), List.mem_of_getElem? (i := 218) (by decide +kernel)⟩
theorem lw_p5 : lw_okq (⟨"PostDesk2Model", "told", "(IIJ)J"⟩, 13) := ⟨⟨by decide +kernel, by decide +kernel⟩, List.mem_of_getElem? (i := 137) (by decide +kernel), List.mem_of_getElem? (i := 221) (by decide +kernel), List.mem_of_getElem? (i := 222) (by decide +kernel)⟩
theorem lw_p6 : lw_okq (⟨"PostDesk2Model", "logBehind", "(IIIJ)J"⟩, 13) := ⟨⟨by decide +kernel, by decide +kernel⟩, List.mem_of_getElem? (i := 137) (by decide +kernel), List.mem_of_getElem? (i := 230) (by decide +kernel), List.mem_of_getElem? (i := 231) (by decide +kernel)⟩
def lw_privs_1 : List (MethodName × Nat) := [(⟨"PostDesk2", "refusalOf", "(II)J"⟩, 14), (⟨"PostDesk2", "replyTo", "(JIJ)J"⟩, 14), (⟨"PostDesk2", "logBehind", "(JIIJ)J"⟩, 14), (⟨"PostDesk2", "settle", "(JII)V"⟩, 14), (⟨"PostDesk2Model", "way", "(II)I"⟩, 13), (⟨"PostDesk2Model", "told", "(IIJ)J"⟩, 13), (⟨"PostDesk2Model", "logBehind", "(IIIJ)J"⟩, 13)]
theorem lw_r1 : ∀ q ∈ lw_privs_1, lw_okq q := List.forall_mem_cons.mpr ⟨lw_p0, List.forall_mem_cons.mpr ⟨lw_p1, List.forall_mem_cons.mpr ⟨lw_p2, List.forall_mem_cons.mpr ⟨lw_p3, List.forall_mem_cons.mpr ⟨lw_p4, List.forall_mem_cons.mpr ⟨lw_p5, List.forall_mem_cons.mpr ⟨lw_p6, fun _ h => absurd h List.not_mem_nil⟩⟩⟩⟩⟩⟩⟩
def lw_privs : List (MethodName × Nat) := lw_privs_1
def lw_tbl : List Cond := k2_sels lw_privs ++ tables_1
theorem lw_privs_ok : ∀ q ∈ lw_privs, lw_okq q := lw_r1

/-! ===== BEGIN words of one list among another's, by their places ===== -/
theorem goodIn_r {big : List Cond} (ws : List Cond) (ps : List Nat) (hp : ws = ps.filterMap (fun i => big[i]?)) (h : ws.all goodWord = true) : GoodIn big ws := by
  intro w hw
  have h1 := List.all_eq_true.mp h w hw
  rw [hp] at hw
  obtain ⟨i, -, hi⟩ := List.mem_filterMap.mp hw
  have hm : w ∈ big := by first | exact List.mem_of_getElem? hi | exact List.getElem?_mem hi
  exact ⟨hm, good_of_word h1⟩
theorem goodIn_app {big a b : List Cond} (ha : GoodIn big a) (hb : GoodIn big b) : GoodIn big (a ++ b) := fun w h => (List.mem_append.mp h).elim (ha w) (hb w)
theorem goodIn_ca {big a b : List Cond} {c : Cond} (ha : GoodIn big (c :: a)) (hb : GoodIn big b) : GoodIn big (c :: (a ++ b)) := fun w h => (List.mem_cons.mp h).elim (fun e => ha w (List.mem_cons.mpr (Or.inl e))) (fun h => (List.mem_append.mp h).elim (fun h => ha w (List.mem_cons.mpr (Or.inr h))) (hb w))
theorem goodIn_sub {big ws : List Cond} (hm : ∀ w ∈ ws, w ∈ big) (h : ws.all goodWord = true) : GoodIn big ws := fun w hw => ⟨hm w hw, good_of_word (List.all_eq_true.mp h w hw)⟩
/-! ===== END ===== -/

/-! ===== BEGIN printed: names, fields, word lists, decode rows ===== -/
def RX0 : String := "PostDesk2"
def TX0 : u_T := fun k => match k with
  | 0 => ("PostDesk2", "made", "[I", true)
  | 1 => ("PostDesk2", "presentOfKind", "[I", true)
  | 2 => ("PostDesk2", "present", "[Z", true)
  | 3 => ("PostDesk2", "values", "[J", true)
  | 4 => ("PostDesk2", "failures", "[I", true)
  | 5 => ("PostDesk2", "collected", "I", false)
  | 6 => ("PostDesk2", "digest", "J", false)
  | 7 => ("PostDesk2", "answeredCalls", "J", false)
  | 8 => ("PostDesk2", "refusedCalls", "J", false)
  | 9 => ("PostDesk2", "failedCalls", "J", false)
  | 10 => ("PostDesk2", "latestFailure", "I", false)
  | 11 => ("PostDesk2", "latestNumber", "I", false)
  | 12 => ("PostDesk2", "latestCall", "I", false)
  | _ => ("PostDesk2", "logged", "J", false)
def tyX0 : Nat → FieldType := fun k => match k with
  | 0 => .array .int
  | 1 => .array .int
  | 2 => .array .boolean
  | 3 => .array .long
  | 4 => .array .int
  | 5 => .int
  | 6 => .long
  | 7 => .long
  | 8 => .long
  | 9 => .long
  | 10 => .int
  | 11 => .int
  | 12 => .int
  | _ => .long
abbrev wsX00 : List Cond := u_ws RX0 TX0 14
theorem nmX0 : ∀ a, a < 14 → ∀ b, b < 14 → a ≠ b → (TX0 a).2.1 ≠ (TX0 b).2.1 := by decide +kernel
theorem tyX0_ok : ∀ k, k < 14 → parseFieldDescriptor (TX0 k).2.2.1 = some (tyX0 k) := by decide +kernel
abbrev cX0_init : ByteArray := prog_1_method_1_code
def yX0_init : MethodName := ⟨RX0, "<init>", "()V"⟩
abbrev cX0_collect : ByteArray := prog_1_method_2_code
def yX0_collect : MethodName := ⟨RX0, "collect", "(J)I"⟩
abbrev cX0_answer : ByteArray := prog_1_method_3_code
def yX0_answer : MethodName := ⟨RX0, "answer", "(IJ)I"⟩
abbrev cX0_fails : ByteArray := prog_1_method_4_code
def yX0_fails : MethodName := ⟨RX0, "fails", "(II)I"⟩
abbrev cX0_make : ByteArray := prog_1_method_5_code
def yX0_make : MethodName := ⟨RX0, "make", "(I)I"⟩
abbrev cX0_call : ByteArray := prog_1_method_6_code
def yX0_call : MethodName := ⟨RX0, "call", "(IIJ)J"⟩
abbrev cX0_told : ByteArray := prog_1_method_7_code
def yX0_told : MethodName := ⟨RX0, "told", "(I)J"⟩
abbrev cX0_drop : ByteArray := prog_1_method_8_code
def yX0_drop : MethodName := ⟨RX0, "drop", "(I)Z"⟩
abbrev cX0_numbers : ByteArray := prog_1_method_9_code
def yX0_numbers : MethodName := ⟨RX0, "numbers", "(I)I"⟩
abbrev cX0_isThere : ByteArray := prog_1_method_10_code
def yX0_isThere : MethodName := ⟨RX0, "isThere", "(I)Z"⟩
abbrev cX0_again : ByteArray := prog_1_method_11_code
def yX0_again : MethodName := ⟨RX0, "again", "(IIJ)J"⟩
abbrev cX0_log : ByteArray := prog_1_method_12_code
def yX0_log : MethodName := ⟨RX0, "log", "(IIJ)J"⟩
abbrev cX0_isCall : ByteArray := prog_1_method_13_code
def yX0_isCall : MethodName := ⟨RX0, "isCall", "(I)Z"⟩
abbrev cX0_isKind : ByteArray := prog_1_method_14_code
def yX0_isKind : MethodName := ⟨RX0, "isKind", "(I)Z"⟩
abbrev cX0_placeOf : ByteArray := prog_1_method_15_code
def yX0_placeOf : MethodName := ⟨RX0, "placeOf", "(I)I"⟩
abbrev cX0_refusalOf : ByteArray := prog_1_method_16_code
def yX0_refusalOf : MethodName := ⟨RX0, "refusalOf", "(II)J"⟩
abbrev cX0_replyTo : ByteArray := prog_1_method_17_code
def yX0_replyTo : MethodName := ⟨RX0, "replyTo", "(JIJ)J"⟩
abbrev cX0_logBehind : ByteArray := prog_1_method_18_code
def yX0_logBehind : MethodName := ⟨RX0, "logBehind", "(JIIJ)J"⟩
abbrev cX0_settle : ByteArray := prog_1_method_19_code
def yX0_settle : MethodName := ⟨RX0, "settle", "(JII)V"⟩
def RX1 : String := "PostDesk2Model"
def TX1 : u_T := fun k => match k with
  | 0 => ("PostDesk2Model", "collected", "[J", true)
  | 1 => ("PostDesk2Model", "many", "I", false)
  | 2 => ("PostDesk2Model", "value", "[J", true)
  | 3 => ("PostDesk2Model", "failure", "[I", true)
  | 4 => ("PostDesk2Model", "made", "[I", true)
  | 5 => ("PostDesk2Model", "there", "[Z", true)
  | 6 => ("PostDesk2Model", "answered", "J", false)
  | 7 => ("PostDesk2Model", "refused", "J", false)
  | 8 => ("PostDesk2Model", "failed", "J", false)
  | 9 => ("PostDesk2Model", "kindOf", "I", false)
  | 10 => ("PostDesk2Model", "numberOf", "I", false)
  | 11 => ("PostDesk2Model", "callOf", "I", false)
  | _ => ("PostDesk2Model", "log", "J", false)
def tyX1 : Nat → FieldType := fun k => match k with
  | 0 => .array .long
  | 1 => .int
  | 2 => .array .long
  | 3 => .array .int
  | 4 => .array .int
  | 5 => .array .boolean
  | 6 => .long
  | 7 => .long
  | 8 => .long
  | 9 => .int
  | 10 => .int
  | 11 => .int
  | _ => .long
abbrev wsX10 : List Cond := u_ws RX1 TX1 13
theorem nmX1 : ∀ a, a < 13 → ∀ b, b < 13 → a ≠ b → (TX1 a).2.1 ≠ (TX1 b).2.1 := by decide +kernel
theorem tyX1_ok : ∀ k, k < 13 → parseFieldDescriptor (TX1 k).2.2.1 = some (tyX1 k) := by decide +kernel
abbrev cX1_init : ByteArray := prog_3_method_1_code
def yX1_init : MethodName := ⟨RX1, "<init>", "()V"⟩
abbrev cX1_collect : ByteArray := prog_3_method_3_code
def yX1_collect : MethodName := ⟨RX1, "collect", "(J)I"⟩
abbrev cX1_answer : ByteArray := prog_3_method_4_code
def yX1_answer : MethodName := ⟨RX1, "answer", "(IJ)I"⟩
abbrev cX1_fails : ByteArray := prog_3_method_5_code
def yX1_fails : MethodName := ⟨RX1, "fails", "(II)I"⟩
abbrev cX1_make : ByteArray := prog_3_method_6_code
def yX1_make : MethodName := ⟨RX1, "make", "(I)I"⟩
abbrev cX1_isThere : ByteArray := prog_3_method_7_code
def yX1_isThere : MethodName := ⟨RX1, "isThere", "(I)Z"⟩
abbrev cX1_drop : ByteArray := prog_3_method_8_code
def yX1_drop : MethodName := ⟨RX1, "drop", "(I)Z"⟩
abbrev cX1_numbers : ByteArray := prog_3_method_9_code
def yX1_numbers : MethodName := ⟨RX1, "numbers", "(I)I"⟩
abbrev cX1_way : ByteArray := prog_3_method_10_code
def yX1_way : MethodName := ⟨RX1, "way", "(II)I"⟩
abbrev cX1_told : ByteArray := prog_3_method_11_code
def yX1_told : MethodName := ⟨RX1, "told", "(IIJ)J"⟩
abbrev cX1_logBehind : ByteArray := prog_3_method_12_code
def yX1_logBehind : MethodName := ⟨RX1, "logBehind", "(IIIJ)J"⟩
abbrev cX1_call : ByteArray := prog_3_method_13_code
def yX1_call : MethodName := ⟨RX1, "call", "(IIJ)J"⟩
abbrev cX1_again : ByteArray := prog_3_method_14_code
def yX1_again : MethodName := ⟨RX1, "again", "(IIJ)J"⟩
def RL : String := "PostDesk2Law"
abbrev cL_law : ByteArray := code
def yL_law : MethodName := ⟨RL, "law", "([I)Z"⟩
def wsX0_init : List Cond := .code yX0_init cX0_init 1 none :: ([.methodLink RX0 3 objectInit, .instanceMethod objectInit, .code objectInit ⟨#[0xb1]⟩ 1 none, .arrayClass .int, .fieldLink RX0 9 "PostDesk2" "made" "[I", .fieldLink RX0 13 "PostDesk2" "presentOfKind" "[I", .arrayClass .boolean, .fieldLink RX0 16 "PostDesk2" "present" "[Z", .arrayClass .long, .fieldLink RX0 20 "PostDesk2" "values" "[J", .fieldLink RX0 24 "PostDesk2" "failures" "[I", .fieldLink RX0 27 "PostDesk2" "collected" "I", .fieldLink RX0 31 "PostDesk2" "digest" "J", .fieldLink RX0 35 "PostDesk2" "answeredCalls" "J", .fieldLink RX0 38 "PostDesk2" "refusedCalls" "J", .fieldLink RX0 41 "PostDesk2" "failedCalls" "J", .fieldLink RX0 44 "PostDesk2" "latestFailure" "I", .fieldLink RX0 47 "PostDesk2" "latestNumber" "I", .fieldLink RX0 50 "PostDesk2" "latestCall" "I", .constantLong RX0 53 (7), .fieldLink RX0 55 "PostDesk2" "logged" "J"] ++ wsX00)
def wsX0_collect : List Cond := .code yX0_collect cX0_collect 3 (some .int) :: ([.fieldLink RX0 27 "PostDesk2" "collected" "I", .constantLong RX0 58 (31), .fieldLink RX0 31 "PostDesk2" "digest" "J"] ++ wsX00)
def wsX0_isCall : List Cond := .code yX0_isCall cX0_isCall 1 (some .boolean) :: ([])
def wsX0_answer : List Cond := .code yX0_answer cX0_answer 4 (some .int) :: ([.fieldLink RX0 20 "PostDesk2" "values" "[J", .fieldLink RX0 24 "PostDesk2" "failures" "[I", .methodLink RX0 60 yX0_isCall, .static yX0_isCall, .initialized RX0, .code yX0_isCall cX0_isCall 1 (some .boolean)] ++ wsX00)
def wsX0_fails : List Cond := .code yX0_fails cX0_fails 3 (some .int) :: ([.fieldLink RX0 24 "PostDesk2" "failures" "[I", .methodLink RX0 60 yX0_isCall, .static yX0_isCall, .initialized RX0, .code yX0_isCall cX0_isCall 1 (some .boolean)] ++ wsX00)
def wsX0_isKind : List Cond := .code yX0_isKind cX0_isKind 1 (some .boolean) :: ([])
def wsX0_make : List Cond := .code yX0_make cX0_make 2 (some .int) :: ([.fieldLink RX0 9 "PostDesk2" "made" "[I", .fieldLink RX0 13 "PostDesk2" "presentOfKind" "[I", .fieldLink RX0 16 "PostDesk2" "present" "[Z", .methodLink RX0 64 yX0_isKind, .static yX0_isKind, .initialized RX0, .code yX0_isKind cX0_isKind 1 (some .boolean)] ++ wsX00)
def wsX0_placeOf : List Cond := .code yX0_placeOf cX0_placeOf 3 (some .int) :: ([.methodLink RX0 64 yX0_isKind, .static yX0_isKind, .initialized RX0, .code yX0_isKind cX0_isKind 1 (some .boolean)])
def wsX0_isThere : List Cond := .code yX0_isThere cX0_isThere 3 (some .boolean) :: ([.fieldLink RX0 16 "PostDesk2" "present" "[Z", .methodLink RX0 85 yX0_placeOf, .static yX0_placeOf, .initialized RX0, .code yX0_placeOf cX0_placeOf 3 (some .int), .methodLink RX0 64 yX0_isKind, .static yX0_isKind, .code yX0_isKind cX0_isKind 1 (some .boolean)] ++ wsX00)
def wsX0_refusalOf : List Cond := .code yX0_refusalOf cX0_refusalOf 3 (some .long) :: ([.constantLong RX0 71 (-9000000000000000012), .constantLong RX0 92 (-9000000000000000011), .fieldLink RX0 27 "PostDesk2" "collected" "I", .constantLong RX0 94 (-9000000000000000013), .methodLink RX0 60 yX0_isCall, .static yX0_isCall, .initialized RX0, .code yX0_isCall cX0_isCall 1 (some .boolean), .methodLink RX0 89 yX0_isThere, .instanceMethod yX0_isThere, .selects RX0 yX0_isThere yX0_isThere, .code yX0_isThere cX0_isThere 3 (some .boolean), .fieldLink RX0 16 "PostDesk2" "present" "[Z", .methodLink RX0 85 yX0_placeOf, .static yX0_placeOf, .code yX0_placeOf cX0_placeOf 3 (some .int), .methodLink RX0 64 yX0_isKind, .static yX0_isKind, .code yX0_isKind cX0_isKind 1 (some .boolean)] ++ wsX00)
def wsX0_replyTo : List Cond := .code yX0_replyTo cX0_replyTo 6 (some .long) :: ([.fieldLink RX0 24 "PostDesk2" "failures" "[I", .constantLong RX0 96 (-9000000000000000020), .fieldLink RX0 20 "PostDesk2" "values" "[J", .fieldLink RX0 31 "PostDesk2" "digest" "J"] ++ wsX00)
def wsX0_logBehind : List Cond := .code yX0_logBehind cX0_logBehind 9 (some .long) :: ([.constantLong RX0 71 (-9000000000000000012), .fieldLink RX0 55 "PostDesk2" "logged" "J", .constantLong RX0 98 (17), .constantLong RX0 100 (1000003), .constantLong RX0 102 (32), .fieldLink RX0 24 "PostDesk2" "failures" "[I"] ++ wsX00)
def wsX0_settle : List Cond := .code yX0_settle cX0_settle 5 none :: ([.fieldLink RX0 38 "PostDesk2" "refusedCalls" "J", .fieldLink RX0 24 "PostDesk2" "failures" "[I", .fieldLink RX0 41 "PostDesk2" "failedCalls" "J", .fieldLink RX0 44 "PostDesk2" "latestFailure" "I", .fieldLink RX0 47 "PostDesk2" "latestNumber" "I", .fieldLink RX0 50 "PostDesk2" "latestCall" "I", .fieldLink RX0 35 "PostDesk2" "answeredCalls" "J", .fieldLink RX0 27 "PostDesk2" "collected" "I", .fieldLink RX0 31 "PostDesk2" "digest" "J"] ++ wsX00)
def wsX0_call_r1 : List Cond := [Cond.constantLong RX0 71 (-9000000000000000012), Cond.fieldLink RX0 55 "PostDesk2" "logged" "J", Cond.methodLink RX0 67 yX0_refusalOf, Cond.instanceMethod yX0_refusalOf, Cond.selects RX0 yX0_refusalOf yX0_refusalOf, Cond.initialized RX0, Cond.code yX0_refusalOf cX0_refusalOf 3 (some .long), Cond.constantLong RX0 92 (-9000000000000000011), Cond.fieldLink RX0 27 "PostDesk2" "collected" "I", Cond.constantLong RX0 94 (-9000000000000000013), Cond.methodLink RX0 60 yX0_isCall, Cond.static yX0_isCall, Cond.code yX0_isCall cX0_isCall 1 (some .boolean), Cond.methodLink RX0 89 yX0_isThere, Cond.instanceMethod yX0_isThere, Cond.selects RX0 yX0_isThere yX0_isThere, Cond.code yX0_isThere cX0_isThere 3 (some .boolean), Cond.fieldLink RX0 16 "PostDesk2" "present" "[Z", Cond.methodLink RX0 85 yX0_placeOf, Cond.static yX0_placeOf, Cond.code yX0_placeOf cX0_placeOf 3 (some .int), Cond.methodLink RX0 64 yX0_isKind, Cond.static yX0_isKind, Cond.code yX0_isKind cX0_isKind 1 (some .boolean)]
def wsX0_call_r2 : List Cond := [Cond.methodLink RX0 73 yX0_replyTo, Cond.instanceMethod yX0_replyTo, Cond.selects RX0 yX0_replyTo yX0_replyTo, Cond.code yX0_replyTo cX0_replyTo 6 (some .long), Cond.fieldLink RX0 24 "PostDesk2" "failures" "[I", Cond.constantLong RX0 96 (-9000000000000000020), Cond.fieldLink RX0 20 "PostDesk2" "values" "[J", Cond.fieldLink RX0 31 "PostDesk2" "digest" "J", Cond.methodLink RX0 77 yX0_logBehind, Cond.instanceMethod yX0_logBehind, Cond.selects RX0 yX0_logBehind yX0_logBehind, Cond.code yX0_logBehind cX0_logBehind 9 (some .long), Cond.constantLong RX0 98 (17), Cond.constantLong RX0 100 (1000003), Cond.constantLong RX0 102 (32), Cond.methodLink RX0 81 yX0_settle, Cond.instanceMethod yX0_settle, Cond.selects RX0 yX0_settle yX0_settle, Cond.code yX0_settle cX0_settle 5 none, Cond.fieldLink RX0 38 "PostDesk2" "refusedCalls" "J", Cond.fieldLink RX0 41 "PostDesk2" "failedCalls" "J", Cond.fieldLink RX0 44 "PostDesk2" "latestFailure" "I", Cond.fieldLink RX0 47 "PostDesk2" "latestNumber" "I", Cond.fieldLink RX0 50 "PostDesk2" "latestCall" "I"]
def wsX0_call_r3 : List Cond := [Cond.fieldLink RX0 35 "PostDesk2" "answeredCalls" "J"]
def wsX0_call : List Cond := .code yX0_call cX0_call 9 (some .long) :: ((wsX0_call_r1 ++ (wsX0_call_r2 ++ wsX0_call_r3)) ++ wsX00)
def wsX0_told : List Cond := .code yX0_told cX0_told 2 (some .long) :: ([.fieldLink RX0 35 "PostDesk2" "answeredCalls" "J", .fieldLink RX0 38 "PostDesk2" "refusedCalls" "J", .fieldLink RX0 41 "PostDesk2" "failedCalls" "J", .fieldLink RX0 44 "PostDesk2" "latestFailure" "I", .fieldLink RX0 47 "PostDesk2" "latestNumber" "I", .fieldLink RX0 50 "PostDesk2" "latestCall" "I", .fieldLink RX0 27 "PostDesk2" "collected" "I", .fieldLink RX0 55 "PostDesk2" "logged" "J"] ++ wsX00)
def wsX0_drop : List Cond := .code yX0_drop cX0_drop 3 (some .boolean) :: ([.fieldLink RX0 16 "PostDesk2" "present" "[Z", .fieldLink RX0 13 "PostDesk2" "presentOfKind" "[I", .methodLink RX0 85 yX0_placeOf, .static yX0_placeOf, .initialized RX0, .code yX0_placeOf cX0_placeOf 3 (some .int), .methodLink RX0 64 yX0_isKind, .static yX0_isKind, .code yX0_isKind cX0_isKind 1 (some .boolean)] ++ wsX00)
def wsX0_numbers : List Cond := .code yX0_numbers cX0_numbers 2 (some .int) :: ([.fieldLink RX0 13 "PostDesk2" "presentOfKind" "[I", .methodLink RX0 64 yX0_isKind, .static yX0_isKind, .initialized RX0, .code yX0_isKind cX0_isKind 1 (some .boolean)] ++ wsX00)
def wsX0_again_r1 : List Cond := [Cond.methodLink RX0 67 yX0_refusalOf, Cond.instanceMethod yX0_refusalOf, Cond.selects RX0 yX0_refusalOf yX0_refusalOf, Cond.initialized RX0, Cond.code yX0_refusalOf cX0_refusalOf 3 (some .long), Cond.constantLong RX0 71 (-9000000000000000012), Cond.constantLong RX0 92 (-9000000000000000011), Cond.fieldLink RX0 27 "PostDesk2" "collected" "I", Cond.constantLong RX0 94 (-9000000000000000013), Cond.methodLink RX0 60 yX0_isCall, Cond.static yX0_isCall, Cond.code yX0_isCall cX0_isCall 1 (some .boolean), Cond.methodLink RX0 89 yX0_isThere, Cond.instanceMethod yX0_isThere, Cond.selects RX0 yX0_isThere yX0_isThere, Cond.code yX0_isThere cX0_isThere 3 (some .boolean), Cond.fieldLink RX0 16 "PostDesk2" "present" "[Z", Cond.methodLink RX0 85 yX0_placeOf, Cond.static yX0_placeOf, Cond.code yX0_placeOf cX0_placeOf 3 (some .int), Cond.methodLink RX0 64 yX0_isKind, Cond.static yX0_isKind, Cond.code yX0_isKind cX0_isKind 1 (some .boolean), Cond.methodLink RX0 73 yX0_replyTo]
def wsX0_again_r2 : List Cond := [Cond.instanceMethod yX0_replyTo, Cond.selects RX0 yX0_replyTo yX0_replyTo, Cond.code yX0_replyTo cX0_replyTo 6 (some .long), Cond.fieldLink RX0 24 "PostDesk2" "failures" "[I", Cond.constantLong RX0 96 (-9000000000000000020), Cond.fieldLink RX0 20 "PostDesk2" "values" "[J", Cond.fieldLink RX0 31 "PostDesk2" "digest" "J"]
def wsX0_again : List Cond := .code yX0_again cX0_again 5 (some .long) :: ((wsX0_again_r1 ++ wsX0_again_r2) ++ wsX00)
def wsX0_log_r1 : List Cond := [Cond.methodLink RX0 67 yX0_refusalOf, Cond.instanceMethod yX0_refusalOf, Cond.selects RX0 yX0_refusalOf yX0_refusalOf, Cond.initialized RX0, Cond.code yX0_refusalOf cX0_refusalOf 3 (some .long), Cond.constantLong RX0 71 (-9000000000000000012), Cond.constantLong RX0 92 (-9000000000000000011), Cond.fieldLink RX0 27 "PostDesk2" "collected" "I", Cond.constantLong RX0 94 (-9000000000000000013), Cond.methodLink RX0 60 yX0_isCall, Cond.static yX0_isCall, Cond.code yX0_isCall cX0_isCall 1 (some .boolean), Cond.methodLink RX0 89 yX0_isThere, Cond.instanceMethod yX0_isThere, Cond.selects RX0 yX0_isThere yX0_isThere, Cond.code yX0_isThere cX0_isThere 3 (some .boolean), Cond.fieldLink RX0 16 "PostDesk2" "present" "[Z", Cond.methodLink RX0 85 yX0_placeOf, Cond.static yX0_placeOf, Cond.code yX0_placeOf cX0_placeOf 3 (some .int), Cond.methodLink RX0 64 yX0_isKind, Cond.static yX0_isKind, Cond.code yX0_isKind cX0_isKind 1 (some .boolean), Cond.methodLink RX0 73 yX0_replyTo]
def wsX0_log_r2 : List Cond := [Cond.instanceMethod yX0_replyTo, Cond.selects RX0 yX0_replyTo yX0_replyTo, Cond.code yX0_replyTo cX0_replyTo 6 (some .long), Cond.fieldLink RX0 24 "PostDesk2" "failures" "[I", Cond.constantLong RX0 96 (-9000000000000000020), Cond.fieldLink RX0 20 "PostDesk2" "values" "[J", Cond.fieldLink RX0 31 "PostDesk2" "digest" "J", Cond.methodLink RX0 77 yX0_logBehind, Cond.instanceMethod yX0_logBehind, Cond.selects RX0 yX0_logBehind yX0_logBehind, Cond.code yX0_logBehind cX0_logBehind 9 (some .long), Cond.fieldLink RX0 55 "PostDesk2" "logged" "J", Cond.constantLong RX0 98 (17), Cond.constantLong RX0 100 (1000003), Cond.constantLong RX0 102 (32)]
def wsX0_log : List Cond := .code yX0_log cX0_log 7 (some .long) :: ((wsX0_log_r1 ++ wsX0_log_r2) ++ wsX00)
def wsX1_init : List Cond := .code yX1_init cX1_init 1 none :: ([.methodLink RX1 1 objectInit, .instanceMethod objectInit, .code objectInit ⟨#[0xb1]⟩ 1 none, .arrayClass .long, .fieldLink RX1 7 "PostDesk2Model" "collected" "[J", .fieldLink RX1 13 "PostDesk2Model" "value" "[J", .arrayClass .int, .fieldLink RX1 16 "PostDesk2Model" "failure" "[I", .fieldLink RX1 20 "PostDesk2Model" "made" "[I", .arrayClass .boolean, .fieldLink RX1 23 "PostDesk2Model" "there" "[Z", .constantLong RX1 27 (7), .fieldLink RX1 29 "PostDesk2Model" "log" "J"] ++ wsX10)
def wsX1_collect : List Cond := .code yX1_collect cX1_collect 3 (some .int) :: ([.fieldLink RX1 33 "PostDesk2Model" "many" "I", .fieldLink RX1 7 "PostDesk2Model" "collected" "[J"] ++ wsX10)
def wsX1_answer : List Cond := .code yX1_answer cX1_answer 4 (some .int) :: ([.fieldLink RX1 13 "PostDesk2Model" "value" "[J", .fieldLink RX1 16 "PostDesk2Model" "failure" "[I"] ++ wsX10)
def wsX1_fails : List Cond := .code yX1_fails cX1_fails 3 (some .int) :: ([.fieldLink RX1 16 "PostDesk2Model" "failure" "[I"] ++ wsX10)
def wsX1_make : List Cond := .code yX1_make cX1_make 2 (some .int) :: ([.fieldLink RX1 20 "PostDesk2Model" "made" "[I", .fieldLink RX1 23 "PostDesk2Model" "there" "[Z"] ++ wsX10)
def wsX1_isThere : List Cond := .code yX1_isThere cX1_isThere 2 (some .boolean) :: ([.fieldLink RX1 23 "PostDesk2Model" "there" "[Z"] ++ wsX10)
def wsX1_drop : List Cond := .code yX1_drop cX1_drop 3 (some .boolean) :: ([.fieldLink RX1 23 "PostDesk2Model" "there" "[Z", .methodLink RX1 37 yX1_isThere, .instanceMethod yX1_isThere, .selects RX1 yX1_isThere yX1_isThere, .initialized RX1, .code yX1_isThere cX1_isThere 2 (some .boolean)] ++ wsX10)
def wsX1_numbers : List Cond := .code yX1_numbers cX1_numbers 4 (some .int) :: ([.fieldLink RX1 23 "PostDesk2Model" "there" "[Z"] ++ wsX10)
def wsX1_way : List Cond := .code yX1_way cX1_way 3 (some .int) :: ([.fieldLink RX1 33 "PostDesk2Model" "many" "I", .fieldLink RX1 16 "PostDesk2Model" "failure" "[I", .methodLink RX1 37 yX1_isThere, .instanceMethod yX1_isThere, .selects RX1 yX1_isThere yX1_isThere, .initialized RX1, .code yX1_isThere cX1_isThere 2 (some .boolean), .fieldLink RX1 23 "PostDesk2Model" "there" "[Z"] ++ wsX10)
def wsX1_told : List Cond := .code yX1_told cX1_told 8 (some .long) :: ([.constantLong RX1 41 (-9000000000000000012), .constantLong RX1 43 (-9000000000000000011), .constantLong RX1 45 (-9000000000000000013), .constantLong RX1 47 (-9000000000000000020), .fieldLink RX1 33 "PostDesk2Model" "many" "I", .constantLong RX1 49 (31), .fieldLink RX1 7 "PostDesk2Model" "collected" "[J", .fieldLink RX1 13 "PostDesk2Model" "value" "[J"] ++ wsX10)
def wsX1_logBehind : List Cond := .code yX1_logBehind cX1_logBehind 8 (some .long) :: ([.fieldLink RX1 29 "PostDesk2Model" "log" "J", .constantLong RX1 51 (1000003), .constantLong RX1 53 (32), .constantLong RX1 55 (17), .fieldLink RX1 16 "PostDesk2Model" "failure" "[I"] ++ wsX10)
def wsX1_call_r1 : List Cond := [Cond.fieldLink RX1 29 "PostDesk2Model" "log" "J", Cond.fieldLink RX1 69 "PostDesk2Model" "answered" "J", Cond.fieldLink RX1 33 "PostDesk2Model" "many" "I", Cond.fieldLink RX1 72 "PostDesk2Model" "failed" "J", Cond.fieldLink RX1 16 "PostDesk2Model" "failure" "[I", Cond.fieldLink RX1 75 "PostDesk2Model" "kindOf" "I", Cond.fieldLink RX1 78 "PostDesk2Model" "numberOf" "I", Cond.fieldLink RX1 81 "PostDesk2Model" "callOf" "I", Cond.fieldLink RX1 84 "PostDesk2Model" "refused" "J", Cond.methodLink RX1 57 yX1_way, Cond.instanceMethod yX1_way, Cond.selects RX1 yX1_way yX1_way, Cond.initialized RX1, Cond.code yX1_way cX1_way 3 (some .int), Cond.methodLink RX1 37 yX1_isThere, Cond.instanceMethod yX1_isThere, Cond.selects RX1 yX1_isThere yX1_isThere, Cond.code yX1_isThere cX1_isThere 2 (some .boolean), Cond.fieldLink RX1 23 "PostDesk2Model" "there" "[Z", Cond.methodLink RX1 61 yX1_told, Cond.instanceMethod yX1_told, Cond.selects RX1 yX1_told yX1_told, Cond.code yX1_told cX1_told 8 (some .long), Cond.constantLong RX1 41 (-9000000000000000012)]
def wsX1_call_r2 : List Cond := [Cond.constantLong RX1 43 (-9000000000000000011), Cond.constantLong RX1 45 (-9000000000000000013), Cond.constantLong RX1 47 (-9000000000000000020), Cond.constantLong RX1 49 (31), Cond.fieldLink RX1 7 "PostDesk2Model" "collected" "[J", Cond.fieldLink RX1 13 "PostDesk2Model" "value" "[J", Cond.methodLink RX1 65 yX1_logBehind, Cond.instanceMethod yX1_logBehind, Cond.selects RX1 yX1_logBehind yX1_logBehind, Cond.code yX1_logBehind cX1_logBehind 8 (some .long), Cond.constantLong RX1 51 (1000003), Cond.constantLong RX1 53 (32), Cond.constantLong RX1 55 (17)]
def wsX1_call : List Cond := .code yX1_call cX1_call 8 (some .long) :: ((wsX1_call_r1 ++ wsX1_call_r2) ++ wsX10)
def wsX1_again : List Cond := .code yX1_again cX1_again 5 (some .long) :: ([.methodLink RX1 57 yX1_way, .instanceMethod yX1_way, .selects RX1 yX1_way yX1_way, .initialized RX1, .code yX1_way cX1_way 3 (some .int), .fieldLink RX1 33 "PostDesk2Model" "many" "I", .fieldLink RX1 16 "PostDesk2Model" "failure" "[I", .methodLink RX1 37 yX1_isThere, .instanceMethod yX1_isThere, .selects RX1 yX1_isThere yX1_isThere, .code yX1_isThere cX1_isThere 2 (some .boolean), .fieldLink RX1 23 "PostDesk2Model" "there" "[Z", .methodLink RX1 61 yX1_told, .instanceMethod yX1_told, .selects RX1 yX1_told yX1_told, .code yX1_told cX1_told 8 (some .long), .constantLong RX1 41 (-9000000000000000012), .constantLong RX1 43 (-9000000000000000011), .constantLong RX1 45 (-9000000000000000013), .constantLong RX1 47 (-9000000000000000020), .constantLong RX1 49 (31), .fieldLink RX1 7 "PostDesk2Model" "collected" "[J", .fieldLink RX1 13 "PostDesk2Model" "value" "[J"] ++ wsX10)
def wsL_law_r1 : List Cond := [Cond.classLink RL 7 RX0, Cond.instantiable RX0 14, Cond.initialized RX0, Cond.classLink RL 10 RX1, Cond.instantiable RX1 13, Cond.initialized RX1, Cond.methodLink RL 9 yX0_init, Cond.instanceMethod yX0_init, Cond.code yX0_init cX0_init 1 none, Cond.methodLink RX0 3 objectInit, Cond.instanceMethod objectInit, Cond.code objectInit ⟨#[0xb1]⟩ 1 none, Cond.arrayClass .int, Cond.fieldLink RX0 9 "PostDesk2" "made" "[I", Cond.fieldLink RX0 13 "PostDesk2" "presentOfKind" "[I", Cond.arrayClass .boolean, Cond.fieldLink RX0 16 "PostDesk2" "present" "[Z", Cond.arrayClass .long, Cond.fieldLink RX0 20 "PostDesk2" "values" "[J", Cond.fieldLink RX0 24 "PostDesk2" "failures" "[I", Cond.fieldLink RX0 27 "PostDesk2" "collected" "I", Cond.fieldLink RX0 31 "PostDesk2" "digest" "J", Cond.fieldLink RX0 35 "PostDesk2" "answeredCalls" "J", Cond.fieldLink RX0 38 "PostDesk2" "refusedCalls" "J"]
def wsL_law_r2 : List Cond := [Cond.fieldLink RX0 41 "PostDesk2" "failedCalls" "J", Cond.fieldLink RX0 44 "PostDesk2" "latestFailure" "I", Cond.fieldLink RX0 47 "PostDesk2" "latestNumber" "I", Cond.fieldLink RX0 50 "PostDesk2" "latestCall" "I", Cond.constantLong RX0 53 (7), Cond.fieldLink RX0 55 "PostDesk2" "logged" "J", Cond.methodLink RL 12 yX1_init, Cond.instanceMethod yX1_init, Cond.code yX1_init cX1_init 1 none, Cond.methodLink RX1 1 objectInit, Cond.fieldLink RX1 7 "PostDesk2Model" "collected" "[J", Cond.fieldLink RX1 13 "PostDesk2Model" "value" "[J", Cond.fieldLink RX1 16 "PostDesk2Model" "failure" "[I", Cond.fieldLink RX1 20 "PostDesk2Model" "made" "[I", Cond.fieldLink RX1 23 "PostDesk2Model" "there" "[Z", Cond.constantLong RX1 27 (7), Cond.fieldLink RX1 29 "PostDesk2Model" "log" "J", Cond.methodLink RL 15 yX0_collect, Cond.instanceMethod yX0_collect, Cond.selects RX0 yX0_collect yX0_collect, Cond.code yX0_collect cX0_collect 3 (some .int), Cond.constantLong RX0 58 (31), Cond.methodLink RL 19 yX1_collect, Cond.instanceMethod yX1_collect]
def wsL_law_r3 : List Cond := [Cond.selects RX1 yX1_collect yX1_collect, Cond.code yX1_collect cX1_collect 3 (some .int), Cond.fieldLink RX1 33 "PostDesk2Model" "many" "I", Cond.methodLink RL 20 yX0_answer, Cond.instanceMethod yX0_answer, Cond.selects RX0 yX0_answer yX0_answer, Cond.code yX0_answer cX0_answer 4 (some .int), Cond.methodLink RX0 60 yX0_isCall, Cond.static yX0_isCall, Cond.code yX0_isCall cX0_isCall 1 (some .boolean), Cond.methodLink RL 24 yX1_answer, Cond.instanceMethod yX1_answer, Cond.selects RX1 yX1_answer yX1_answer, Cond.code yX1_answer cX1_answer 4 (some .int), Cond.methodLink RL 25 yX0_fails, Cond.instanceMethod yX0_fails, Cond.selects RX0 yX0_fails yX0_fails, Cond.code yX0_fails cX0_fails 3 (some .int), Cond.methodLink RL 29 yX1_fails, Cond.instanceMethod yX1_fails, Cond.selects RX1 yX1_fails yX1_fails, Cond.code yX1_fails cX1_fails 3 (some .int), Cond.methodLink RL 30 yX0_make, Cond.instanceMethod yX0_make]
def wsL_law_r4 : List Cond := [Cond.selects RX0 yX0_make yX0_make, Cond.code yX0_make cX0_make 2 (some .int), Cond.methodLink RX0 64 yX0_isKind, Cond.static yX0_isKind, Cond.code yX0_isKind cX0_isKind 1 (some .boolean), Cond.methodLink RL 34 yX1_make, Cond.instanceMethod yX1_make, Cond.selects RX1 yX1_make yX1_make, Cond.code yX1_make cX1_make 2 (some .int), Cond.methodLink RL 35 yX0_call, Cond.instanceMethod yX0_call, Cond.selects RX0 yX0_call yX0_call, Cond.code yX0_call cX0_call 9 (some .long), Cond.constantLong RX0 71 (-9000000000000000012), Cond.methodLink RX0 67 yX0_refusalOf, Cond.instanceMethod yX0_refusalOf, Cond.selects RX0 yX0_refusalOf yX0_refusalOf, Cond.code yX0_refusalOf cX0_refusalOf 3 (some .long), Cond.constantLong RX0 92 (-9000000000000000011), Cond.constantLong RX0 94 (-9000000000000000013), Cond.methodLink RX0 89 yX0_isThere, Cond.instanceMethod yX0_isThere, Cond.selects RX0 yX0_isThere yX0_isThere, Cond.code yX0_isThere cX0_isThere 3 (some .boolean)]
def wsL_law_r5 : List Cond := [Cond.methodLink RX0 85 yX0_placeOf, Cond.static yX0_placeOf, Cond.code yX0_placeOf cX0_placeOf 3 (some .int), Cond.methodLink RX0 73 yX0_replyTo, Cond.instanceMethod yX0_replyTo, Cond.selects RX0 yX0_replyTo yX0_replyTo, Cond.code yX0_replyTo cX0_replyTo 6 (some .long), Cond.constantLong RX0 96 (-9000000000000000020), Cond.methodLink RX0 77 yX0_logBehind, Cond.instanceMethod yX0_logBehind, Cond.selects RX0 yX0_logBehind yX0_logBehind, Cond.code yX0_logBehind cX0_logBehind 9 (some .long), Cond.constantLong RX0 98 (17), Cond.constantLong RX0 100 (1000003), Cond.constantLong RX0 102 (32), Cond.methodLink RX0 81 yX0_settle, Cond.instanceMethod yX0_settle, Cond.selects RX0 yX0_settle yX0_settle, Cond.code yX0_settle cX0_settle 5 none, Cond.methodLink RL 39 yX1_call, Cond.instanceMethod yX1_call, Cond.selects RX1 yX1_call yX1_call, Cond.code yX1_call cX1_call 8 (some .long), Cond.fieldLink RX1 69 "PostDesk2Model" "answered" "J"]
def wsL_law_r6 : List Cond := [Cond.fieldLink RX1 72 "PostDesk2Model" "failed" "J", Cond.fieldLink RX1 75 "PostDesk2Model" "kindOf" "I", Cond.fieldLink RX1 78 "PostDesk2Model" "numberOf" "I", Cond.fieldLink RX1 81 "PostDesk2Model" "callOf" "I", Cond.fieldLink RX1 84 "PostDesk2Model" "refused" "J", Cond.methodLink RX1 57 yX1_way, Cond.instanceMethod yX1_way, Cond.selects RX1 yX1_way yX1_way, Cond.code yX1_way cX1_way 3 (some .int), Cond.methodLink RX1 37 yX1_isThere, Cond.instanceMethod yX1_isThere, Cond.selects RX1 yX1_isThere yX1_isThere, Cond.code yX1_isThere cX1_isThere 2 (some .boolean), Cond.methodLink RX1 61 yX1_told, Cond.instanceMethod yX1_told, Cond.selects RX1 yX1_told yX1_told, Cond.code yX1_told cX1_told 8 (some .long), Cond.constantLong RX1 41 (-9000000000000000012), Cond.constantLong RX1 43 (-9000000000000000011), Cond.constantLong RX1 45 (-9000000000000000013), Cond.constantLong RX1 47 (-9000000000000000020), Cond.constantLong RX1 49 (31), Cond.methodLink RX1 65 yX1_logBehind, Cond.instanceMethod yX1_logBehind]
def wsL_law_r7 : List Cond := [Cond.selects RX1 yX1_logBehind yX1_logBehind, Cond.code yX1_logBehind cX1_logBehind 8 (some .long), Cond.constantLong RX1 51 (1000003), Cond.constantLong RX1 53 (32), Cond.constantLong RX1 55 (17), Cond.methodLink RL 40 yX0_told, Cond.instanceMethod yX0_told, Cond.selects RX0 yX0_told yX0_told, Cond.code yX0_told cX0_told 2 (some .long), Cond.methodLink RL 45 yX0_drop, Cond.instanceMethod yX0_drop, Cond.selects RX0 yX0_drop yX0_drop, Cond.code yX0_drop cX0_drop 3 (some .boolean), Cond.methodLink RL 49 yX1_drop, Cond.instanceMethod yX1_drop, Cond.selects RX1 yX1_drop yX1_drop, Cond.code yX1_drop cX1_drop 3 (some .boolean), Cond.methodLink RL 50 yX0_numbers, Cond.instanceMethod yX0_numbers, Cond.selects RX0 yX0_numbers yX0_numbers, Cond.code yX0_numbers cX0_numbers 2 (some .int), Cond.methodLink RL 53 yX1_numbers, Cond.instanceMethod yX1_numbers, Cond.selects RX1 yX1_numbers yX1_numbers]
def wsL_law_r8 : List Cond := [Cond.code yX1_numbers cX1_numbers 4 (some .int), Cond.methodLink RL 54 yX0_isThere, Cond.methodLink RL 57 yX1_isThere, Cond.methodLink RL 58 yX0_again, Cond.instanceMethod yX0_again, Cond.selects RX0 yX0_again yX0_again, Cond.code yX0_again cX0_again 5 (some .long), Cond.methodLink RL 61 yX1_again, Cond.instanceMethod yX1_again, Cond.selects RX1 yX1_again yX1_again, Cond.code yX1_again cX1_again 5 (some .long), Cond.methodLink RL 62 yX0_log, Cond.instanceMethod yX0_log, Cond.selects RX0 yX0_log yX0_log, Cond.code yX0_log cX0_log 7 (some .long)]
def wsL_law : List Cond := (wsL_law_r1 ++ (wsL_law_r2 ++ (wsL_law_r3 ++ (wsL_law_r4 ++ (wsL_law_r5 ++ (wsL_law_r6 ++ (wsL_law_r7 ++ wsL_law_r8))))))) ++ wsX00 ++ wsX10 ++ ([] : List Cond)
set_option maxRecDepth 20000 in
theorem wsL_law_in : ∀ w ∈ wsL_law, w ∈ lw_tbl := fun w h => (goodIn_p wsL_law [14, 17, 147, 68, 193, 73, 76, 197, 80, 201, 84, 87, 205, 91, 95, 100, 103, 109, 114, 121, 222, 226, 209, 230, 239, 125, 129, 213, 133, 218, 138, 246, 142] (by decide +kernel) (by decide +kernel) w h).1
theorem inlX0 : ∀ w ∈ wsX00, w ∈ wsL_law := fun _ h => List.mem_append_left _ (List.mem_append_left _ (List.mem_append_right _ h))
theorem inX0 : ∀ w ∈ wsX00, w ∈ lw_tbl := fun w h => wsL_law_in w (inlX0 w h)
theorem inlX1 : ∀ w ∈ wsX10, w ∈ wsL_law := fun _ h => List.mem_append_left _ (List.mem_append_right _ h)
theorem inX1 : ∀ w ∈ wsX10, w ∈ lw_tbl := fun w h => wsL_law_in w (inlX1 w h)
set_option maxRecDepth 20000 in
theorem ggX0_answer_X0_isCall : GoodIn wsX0_answer wsX0_isCall := goodIn_r _ [6] (by decide +kernel) (by decide +kernel)
set_option maxRecDepth 20000 in
theorem gX0_answer_X0_isCall : GoodIn wsX0_answer (va_wsS RX0 60 yX0_isCall wsX0_isCall) := goodIn_app (goodIn_of _ (by decide +kernel)) ggX0_answer_X0_isCall
set_option maxRecDepth 20000 in
theorem ggX0_fails_X0_isCall : GoodIn wsX0_fails wsX0_isCall := goodIn_r _ [5] (by decide +kernel) (by decide +kernel)
set_option maxRecDepth 20000 in
theorem gX0_fails_X0_isCall : GoodIn wsX0_fails (va_wsS RX0 60 yX0_isCall wsX0_isCall) := goodIn_app (goodIn_of _ (by decide +kernel)) ggX0_fails_X0_isCall
set_option maxRecDepth 20000 in
theorem ggX0_make_X0_isKind : GoodIn wsX0_make wsX0_isKind := goodIn_r _ [7] (by decide +kernel) (by decide +kernel)
set_option maxRecDepth 20000 in
theorem gX0_make_X0_isKind : GoodIn wsX0_make (va_wsS RX0 64 yX0_isKind wsX0_isKind) := goodIn_app (goodIn_of _ (by decide +kernel)) ggX0_make_X0_isKind
set_option maxRecDepth 20000 in
theorem ggX0_call_X0_refusalOf : GoodIn wsX0_call wsX0_refusalOf := goodIn_r _ [7, 1, 8, 9, 10, 11, 12, 6, 13, 14, 15, 16, 17, 18, 19, 20, 21, 22, 23, 24, 50, 51, 52, 53, 54, 55, 56, 57, 58, 59, 60, 61, 62, 63] (by decide +kernel) (by decide +kernel)
set_option maxRecDepth 20000 in
theorem gX0_call_X0_refusalOf : GoodIn wsX0_call (wsV RX0 67 RX0 yX0_refusalOf wsX0_refusalOf) := goodIn_app (goodIn_of _ (by decide +kernel)) ggX0_call_X0_refusalOf
set_option maxRecDepth 20000 in
theorem ggX0_call_X0_replyTo : GoodIn wsX0_call wsX0_replyTo := goodIn_r _ [28, 29, 30, 31, 32, 50, 51, 52, 53, 54, 55, 56, 57, 58, 59, 60, 61, 62, 63] (by decide +kernel) (by decide +kernel)
set_option maxRecDepth 20000 in
theorem gX0_call_X0_replyTo : GoodIn wsX0_call (wsV RX0 73 RX0 yX0_replyTo wsX0_replyTo) := goodIn_app (goodIn_of _ (by decide +kernel)) ggX0_call_X0_replyTo
set_option maxRecDepth 20000 in
theorem ggX0_call_X0_logBehind : GoodIn wsX0_call wsX0_logBehind := goodIn_r _ [36, 1, 2, 37, 38, 39, 29, 50, 51, 52, 53, 54, 55, 56, 57, 58, 59, 60, 61, 62, 63] (by decide +kernel) (by decide +kernel)
set_option maxRecDepth 20000 in
theorem gX0_call_X0_logBehind : GoodIn wsX0_call (wsV RX0 77 RX0 yX0_logBehind wsX0_logBehind) := goodIn_app (goodIn_of _ (by decide +kernel)) ggX0_call_X0_logBehind
set_option maxRecDepth 20000 in
theorem ggX0_call_X0_settle : GoodIn wsX0_call wsX0_settle := goodIn_r _ [43, 44, 29, 45, 46, 47, 48, 49, 9, 32, 50, 51, 52, 53, 54, 55, 56, 57, 58, 59, 60, 61, 62, 63] (by decide +kernel) (by decide +kernel)
set_option maxRecDepth 20000 in
theorem gX0_call_X0_settle : GoodIn wsX0_call (wsV RX0 81 RX0 yX0_settle wsX0_settle) := goodIn_app (goodIn_of _ (by decide +kernel)) ggX0_call_X0_settle
set_option maxRecDepth 20000 in
theorem ggX0_drop_X0_placeOf : GoodIn wsX0_drop wsX0_placeOf := goodIn_r _ [6, 7, 8, 5, 9] (by decide +kernel) (by decide +kernel)
set_option maxRecDepth 20000 in
theorem gX0_drop_X0_placeOf : GoodIn wsX0_drop (va_wsS RX0 85 yX0_placeOf wsX0_placeOf) := goodIn_app (goodIn_of _ (by decide +kernel)) ggX0_drop_X0_placeOf
set_option maxRecDepth 20000 in
theorem ggX0_numbers_X0_isKind : GoodIn wsX0_numbers wsX0_isKind := goodIn_r _ [5] (by decide +kernel) (by decide +kernel)
set_option maxRecDepth 20000 in
theorem gX0_numbers_X0_isKind : GoodIn wsX0_numbers (va_wsS RX0 64 yX0_isKind wsX0_isKind) := goodIn_app (goodIn_of _ (by decide +kernel)) ggX0_numbers_X0_isKind
set_option maxRecDepth 20000 in
theorem ggX0_isThere_X0_placeOf : GoodIn wsX0_isThere wsX0_placeOf := goodIn_r _ [5, 6, 7, 4, 8] (by decide +kernel) (by decide +kernel)
set_option maxRecDepth 20000 in
theorem gX0_isThere_X0_placeOf : GoodIn wsX0_isThere (va_wsS RX0 85 yX0_placeOf wsX0_placeOf) := goodIn_app (goodIn_of _ (by decide +kernel)) ggX0_isThere_X0_placeOf
set_option maxRecDepth 20000 in
theorem ggX0_again_X0_refusalOf : GoodIn wsX0_again wsX0_refusalOf := goodIn_r _ [5, 6, 7, 8, 9, 10, 11, 4, 12, 13, 14, 15, 16, 17, 18, 19, 20, 21, 22, 23, 32, 33, 34, 35, 36, 37, 38, 39, 40, 41, 42, 43, 44, 45] (by decide +kernel) (by decide +kernel)
set_option maxRecDepth 20000 in
theorem gX0_again_X0_refusalOf : GoodIn wsX0_again (wsV RX0 67 RX0 yX0_refusalOf wsX0_refusalOf) := goodIn_app (goodIn_of _ (by decide +kernel)) ggX0_again_X0_refusalOf
set_option maxRecDepth 20000 in
theorem ggX0_again_X0_replyTo : GoodIn wsX0_again wsX0_replyTo := goodIn_r _ [27, 28, 29, 30, 31, 32, 33, 34, 35, 36, 37, 38, 39, 40, 41, 42, 43, 44, 45] (by decide +kernel) (by decide +kernel)
set_option maxRecDepth 20000 in
theorem gX0_again_X0_replyTo : GoodIn wsX0_again (wsV RX0 73 RX0 yX0_replyTo wsX0_replyTo) := goodIn_app (goodIn_of _ (by decide +kernel)) ggX0_again_X0_replyTo
set_option maxRecDepth 20000 in
theorem ggX0_log_X0_refusalOf : GoodIn wsX0_log wsX0_refusalOf := goodIn_r _ [5, 6, 7, 8, 9, 10, 11, 4, 12, 13, 14, 15, 16, 17, 18, 19, 20, 21, 22, 23, 40, 41, 42, 43, 44, 45, 46, 47, 48, 49, 50, 51, 52, 53] (by decide +kernel) (by decide +kernel)
set_option maxRecDepth 20000 in
theorem gX0_log_X0_refusalOf : GoodIn wsX0_log (wsV RX0 67 RX0 yX0_refusalOf wsX0_refusalOf) := goodIn_app (goodIn_of _ (by decide +kernel)) ggX0_log_X0_refusalOf
set_option maxRecDepth 20000 in
theorem ggX0_log_X0_replyTo : GoodIn wsX0_log wsX0_replyTo := goodIn_r _ [27, 28, 29, 30, 31, 40, 41, 42, 43, 44, 45, 46, 47, 48, 49, 50, 51, 52, 53] (by decide +kernel) (by decide +kernel)
set_option maxRecDepth 20000 in
theorem gX0_log_X0_replyTo : GoodIn wsX0_log (wsV RX0 73 RX0 yX0_replyTo wsX0_replyTo) := goodIn_app (goodIn_of _ (by decide +kernel)) ggX0_log_X0_replyTo
set_option maxRecDepth 20000 in
theorem ggX0_log_X0_logBehind : GoodIn wsX0_log wsX0_logBehind := goodIn_r _ [35, 6, 36, 37, 38, 39, 28, 40, 41, 42, 43, 44, 45, 46, 47, 48, 49, 50, 51, 52, 53] (by decide +kernel) (by decide +kernel)
set_option maxRecDepth 20000 in
theorem gX0_log_X0_logBehind : GoodIn wsX0_log (wsV RX0 77 RX0 yX0_logBehind wsX0_logBehind) := goodIn_app (goodIn_of _ (by decide +kernel)) ggX0_log_X0_logBehind
set_option maxRecDepth 20000 in
theorem ggX0_placeOf_X0_isKind : GoodIn wsX0_placeOf wsX0_isKind := goodIn_r _ [4] (by decide +kernel) (by decide +kernel)
set_option maxRecDepth 20000 in
theorem gX0_placeOf_X0_isKind : GoodIn wsX0_placeOf (va_wsS RX0 64 yX0_isKind wsX0_isKind) := goodIn_app (goodIn_of _ (by decide +kernel)) ggX0_placeOf_X0_isKind
set_option maxRecDepth 20000 in
theorem ggX0_refusalOf_X0_isCall : GoodIn wsX0_refusalOf wsX0_isCall := goodIn_r _ [8] (by decide +kernel) (by decide +kernel)
set_option maxRecDepth 20000 in
theorem gX0_refusalOf_X0_isCall : GoodIn wsX0_refusalOf (va_wsS RX0 60 yX0_isCall wsX0_isCall) := goodIn_app (goodIn_of _ (by decide +kernel)) ggX0_refusalOf_X0_isCall
set_option maxRecDepth 20000 in
theorem ggX0_refusalOf_X0_isThere : GoodIn wsX0_refusalOf wsX0_isThere := goodIn_r _ [12, 13, 14, 15, 7, 16, 17, 18, 19, 20, 21, 22, 23, 24, 25, 26, 27, 28, 29, 30, 31, 32, 33] (by decide +kernel) (by decide +kernel)
set_option maxRecDepth 20000 in
theorem gX0_refusalOf_X0_isThere : GoodIn wsX0_refusalOf (wsV RX0 89 RX0 yX0_isThere wsX0_isThere) := goodIn_app (goodIn_of _ (by decide +kernel)) ggX0_refusalOf_X0_isThere
set_option maxRecDepth 20000 in
theorem ggX1_drop_X1_isThere : GoodIn wsX1_drop wsX1_isThere := goodIn_r _ [6, 1, 7, 8, 9, 10, 11, 12, 13, 14, 15, 16, 17, 18, 19] (by decide +kernel) (by decide +kernel)
set_option maxRecDepth 20000 in
theorem gX1_drop_X1_isThere : GoodIn wsX1_drop (wsV RX1 37 RX1 yX1_isThere wsX1_isThere) := goodIn_app (goodIn_of _ (by decide +kernel)) ggX1_drop_X1_isThere
set_option maxRecDepth 20000 in
theorem ggX1_way_X1_isThere : GoodIn wsX1_way wsX1_isThere := goodIn_r _ [7, 8, 9, 10, 11, 12, 13, 14, 15, 16, 17, 18, 19, 20, 21] (by decide +kernel) (by decide +kernel)
set_option maxRecDepth 20000 in
theorem gX1_way_X1_isThere : GoodIn wsX1_way (wsV RX1 37 RX1 yX1_isThere wsX1_isThere) := goodIn_app (goodIn_of _ (by decide +kernel)) ggX1_way_X1_isThere
set_option maxRecDepth 20000 in
theorem ggX1_call_X1_way : GoodIn wsX1_call wsX1_way := goodIn_r _ [14, 3, 5, 15, 16, 17, 13, 18, 19, 38, 39, 40, 41, 42, 43, 44, 45, 46, 47, 48, 49, 50] (by decide +kernel) (by decide +kernel)
set_option maxRecDepth 20000 in
theorem gX1_call_X1_way : GoodIn wsX1_call (wsV RX1 57 RX1 yX1_way wsX1_way) := goodIn_app (goodIn_of _ (by decide +kernel)) ggX1_call_X1_way
set_option maxRecDepth 20000 in
theorem ggX1_call_X1_told : GoodIn wsX1_call wsX1_told := goodIn_r _ [23, 24, 25, 26, 27, 3, 28, 29, 30, 38, 39, 40, 41, 42, 43, 44, 45, 46, 47, 48, 49, 50] (by decide +kernel) (by decide +kernel)
set_option maxRecDepth 20000 in
theorem gX1_call_X1_told : GoodIn wsX1_call (wsV RX1 61 RX1 yX1_told wsX1_told) := goodIn_app (goodIn_of _ (by decide +kernel)) ggX1_call_X1_told
set_option maxRecDepth 20000 in
theorem ggX1_call_X1_logBehind : GoodIn wsX1_call wsX1_logBehind := goodIn_r _ [34, 1, 35, 36, 37, 5, 38, 39, 40, 41, 42, 43, 44, 45, 46, 47, 48, 49, 50] (by decide +kernel) (by decide +kernel)
set_option maxRecDepth 20000 in
theorem gX1_call_X1_logBehind : GoodIn wsX1_call (wsV RX1 65 RX1 yX1_logBehind wsX1_logBehind) := goodIn_app (goodIn_of _ (by decide +kernel)) ggX1_call_X1_logBehind
set_option maxRecDepth 20000 in
theorem ggX1_again_X1_way : GoodIn wsX1_again wsX1_way := goodIn_r _ [5, 6, 7, 8, 9, 10, 4, 11, 12, 24, 25, 26, 27, 28, 29, 30, 31, 32, 33, 34, 35, 36] (by decide +kernel) (by decide +kernel)
set_option maxRecDepth 20000 in
theorem gX1_again_X1_way : GoodIn wsX1_again (wsV RX1 57 RX1 yX1_way wsX1_way) := goodIn_app (goodIn_of _ (by decide +kernel)) ggX1_again_X1_way
set_option maxRecDepth 20000 in
theorem ggX1_again_X1_told : GoodIn wsX1_again wsX1_told := goodIn_r _ [16, 17, 18, 19, 20, 6, 21, 22, 23, 24, 25, 26, 27, 28, 29, 30, 31, 32, 33, 34, 35, 36] (by decide +kernel) (by decide +kernel)
set_option maxRecDepth 20000 in
theorem gX1_again_X1_told : GoodIn wsX1_again (wsV RX1 61 RX1 yX1_told wsX1_told) := goodIn_app (goodIn_of _ (by decide +kernel)) ggX1_again_X1_told
set_option maxRecDepth 20000 in
theorem ggL_law_X0_init : GoodIn wsL_law wsX0_init := goodIn_r _ [8, 9, 10, 11, 12, 13, 14, 15, 16, 17, 18, 19, 20, 21, 22, 23, 24, 25, 26, 27, 28, 29, 183, 184, 185, 186, 187, 188, 189, 190, 191, 192, 193, 194, 195, 196] (by decide +kernel) (by decide +kernel)
set_option maxRecDepth 20000 in
theorem gL_law_X0_init : GoodIn wsL_law (wsX0_init) := ggL_law_X0_init
set_option maxRecDepth 20000 in
theorem ggL_law_X1_init : GoodIn wsL_law wsX1_init := goodIn_r _ [32, 33, 10, 11, 17, 34, 35, 12, 36, 37, 15, 38, 39, 40, 197, 198, 199, 200, 201, 202, 203, 204, 205, 206, 207, 208, 209] (by decide +kernel) (by decide +kernel)
set_option maxRecDepth 20000 in
theorem gL_law_X1_init : GoodIn wsL_law (wsX1_init) := ggL_law_X1_init
set_option maxRecDepth 20000 in
theorem ggL_law_X0_collect : GoodIn wsL_law wsX0_collect := goodIn_r _ [44, 20, 45, 21, 183, 184, 185, 186, 187, 188, 189, 190, 191, 192, 193, 194, 195, 196] (by decide +kernel) (by decide +kernel)
set_option maxRecDepth 20000 in
theorem gL_law_X0_collect : GoodIn wsL_law (wsV RL 15 RX0 yX0_collect wsX0_collect) := goodIn_app (goodIn_of _ (by decide +kernel)) ggL_law_X0_collect
set_option maxRecDepth 20000 in
theorem ggL_law_X1_collect : GoodIn wsL_law wsX1_collect := goodIn_r _ [49, 50, 34, 197, 198, 199, 200, 201, 202, 203, 204, 205, 206, 207, 208, 209] (by decide +kernel) (by decide +kernel)
set_option maxRecDepth 20000 in
theorem gL_law_X1_collect : GoodIn wsL_law (wsV RL 19 RX1 yX1_collect wsX1_collect) := goodIn_app (goodIn_of _ (by decide +kernel)) ggL_law_X1_collect
set_option maxRecDepth 20000 in
theorem ggL_law_X0_answer : GoodIn wsL_law wsX0_answer := goodIn_r _ [54, 18, 19, 55, 56, 2, 57, 183, 184, 185, 186, 187, 188, 189, 190, 191, 192, 193, 194, 195, 196] (by decide +kernel) (by decide +kernel)
set_option maxRecDepth 20000 in
theorem gL_law_X0_answer : GoodIn wsL_law (wsV RL 20 RX0 yX0_answer wsX0_answer) := goodIn_app (goodIn_of _ (by decide +kernel)) ggL_law_X0_answer
set_option maxRecDepth 20000 in
theorem ggL_law_X1_answer : GoodIn wsL_law wsX1_answer := goodIn_r _ [61, 35, 36, 197, 198, 199, 200, 201, 202, 203, 204, 205, 206, 207, 208, 209] (by decide +kernel) (by decide +kernel)
set_option maxRecDepth 20000 in
theorem gL_law_X1_answer : GoodIn wsL_law (wsV RL 24 RX1 yX1_answer wsX1_answer) := goodIn_app (goodIn_of _ (by decide +kernel)) ggL_law_X1_answer
set_option maxRecDepth 20000 in
theorem ggL_law_X0_fails : GoodIn wsL_law wsX0_fails := goodIn_r _ [65, 19, 55, 56, 2, 57, 183, 184, 185, 186, 187, 188, 189, 190, 191, 192, 193, 194, 195, 196] (by decide +kernel) (by decide +kernel)
set_option maxRecDepth 20000 in
theorem gL_law_X0_fails : GoodIn wsL_law (wsV RL 25 RX0 yX0_fails wsX0_fails) := goodIn_app (goodIn_of _ (by decide +kernel)) ggL_law_X0_fails
set_option maxRecDepth 20000 in
theorem ggL_law_X1_fails : GoodIn wsL_law wsX1_fails := goodIn_r _ [69, 36, 197, 198, 199, 200, 201, 202, 203, 204, 205, 206, 207, 208, 209] (by decide +kernel) (by decide +kernel)
set_option maxRecDepth 20000 in
theorem gL_law_X1_fails : GoodIn wsL_law (wsV RL 29 RX1 yX1_fails wsX1_fails) := goodIn_app (goodIn_of _ (by decide +kernel)) ggL_law_X1_fails
set_option maxRecDepth 20000 in
theorem ggL_law_X0_make : GoodIn wsL_law wsX0_make := goodIn_r _ [73, 13, 14, 16, 74, 75, 2, 76, 183, 184, 185, 186, 187, 188, 189, 190, 191, 192, 193, 194, 195, 196] (by decide +kernel) (by decide +kernel)
set_option maxRecDepth 20000 in
theorem gL_law_X0_make : GoodIn wsL_law (wsV RL 30 RX0 yX0_make wsX0_make) := goodIn_app (goodIn_of _ (by decide +kernel)) ggL_law_X0_make
set_option maxRecDepth 20000 in
theorem ggL_law_X1_make : GoodIn wsL_law wsX1_make := goodIn_r _ [80, 37, 38, 197, 198, 199, 200, 201, 202, 203, 204, 205, 206, 207, 208, 209] (by decide +kernel) (by decide +kernel)
set_option maxRecDepth 20000 in
theorem gL_law_X1_make : GoodIn wsL_law (wsV RL 34 RX1 yX1_make wsX1_make) := goodIn_app (goodIn_of _ (by decide +kernel)) ggL_law_X1_make
set_option maxRecDepth 20000 in
theorem ggL_law_X0_call : GoodIn wsL_law wsX0_call := goodIn_r _ [84, 85, 29, 86, 87, 88, 2, 89, 90, 20, 91, 55, 56, 57, 92, 93, 94, 95, 16, 96, 97, 98, 74, 75, 76, 99, 100, 101, 102, 19, 103, 18, 21, 104, 105, 106, 107, 108, 109, 110, 111, 112, 113, 114, 23, 24, 25, 26, 27, 22, 183, 184, 185, 186, 187, 188, 189, 190, 191, 192, 193, 194, 195, 196] (by decide +kernel) (by decide +kernel)
set_option maxRecDepth 20000 in
theorem gL_law_X0_call : GoodIn wsL_law (wsV RL 35 RX0 yX0_call wsX0_call) := goodIn_app (goodIn_of _ (by decide +kernel)) ggL_law_X0_call
set_option maxRecDepth 20000 in
theorem ggL_law_X1_call : GoodIn wsL_law wsX1_call := goodIn_r _ [118, 40, 119, 50, 120, 36, 121, 122, 123, 124, 125, 126, 127, 5, 128, 129, 130, 131, 132, 38, 133, 134, 135, 136, 137, 138, 139, 140, 141, 34, 35, 142, 143, 144, 145, 146, 147, 148, 197, 198, 199, 200, 201, 202, 203, 204, 205, 206, 207, 208, 209] (by decide +kernel) (by decide +kernel)
set_option maxRecDepth 20000 in
theorem gL_law_X1_call : GoodIn wsL_law (wsV RL 39 RX1 yX1_call wsX1_call) := goodIn_app (goodIn_of _ (by decide +kernel)) ggL_law_X1_call
set_option maxRecDepth 20000 in
theorem ggL_law_X0_told : GoodIn wsL_law wsX0_told := goodIn_r _ [152, 22, 23, 24, 25, 26, 27, 20, 29, 183, 184, 185, 186, 187, 188, 189, 190, 191, 192, 193, 194, 195, 196] (by decide +kernel) (by decide +kernel)
set_option maxRecDepth 20000 in
theorem gL_law_X0_told : GoodIn wsL_law (wsV RL 40 RX0 yX0_told wsX0_told) := goodIn_app (goodIn_of _ (by decide +kernel)) ggL_law_X0_told
set_option maxRecDepth 20000 in
theorem ggL_law_X0_drop : GoodIn wsL_law wsX0_drop := goodIn_r _ [156, 16, 14, 96, 97, 2, 98, 74, 75, 76, 183, 184, 185, 186, 187, 188, 189, 190, 191, 192, 193, 194, 195, 196] (by decide +kernel) (by decide +kernel)
set_option maxRecDepth 20000 in
theorem gL_law_X0_drop : GoodIn wsL_law (wsV RL 45 RX0 yX0_drop wsX0_drop) := goodIn_app (goodIn_of _ (by decide +kernel)) ggL_law_X0_drop
set_option maxRecDepth 20000 in
theorem ggL_law_X1_drop : GoodIn wsL_law wsX1_drop := goodIn_r _ [160, 38, 129, 130, 131, 5, 132, 197, 198, 199, 200, 201, 202, 203, 204, 205, 206, 207, 208, 209] (by decide +kernel) (by decide +kernel)
set_option maxRecDepth 20000 in
theorem gL_law_X1_drop : GoodIn wsL_law (wsV RL 49 RX1 yX1_drop wsX1_drop) := goodIn_app (goodIn_of _ (by decide +kernel)) ggL_law_X1_drop
set_option maxRecDepth 20000 in
theorem ggL_law_X0_numbers : GoodIn wsL_law wsX0_numbers := goodIn_r _ [164, 14, 74, 75, 2, 76, 183, 184, 185, 186, 187, 188, 189, 190, 191, 192, 193, 194, 195, 196] (by decide +kernel) (by decide +kernel)
set_option maxRecDepth 20000 in
theorem gL_law_X0_numbers : GoodIn wsL_law (wsV RL 50 RX0 yX0_numbers wsX0_numbers) := goodIn_app (goodIn_of _ (by decide +kernel)) ggL_law_X0_numbers
set_option maxRecDepth 20000 in
theorem ggL_law_X1_numbers : GoodIn wsL_law wsX1_numbers := goodIn_r _ [168, 38, 197, 198, 199, 200, 201, 202, 203, 204, 205, 206, 207, 208, 209] (by decide +kernel) (by decide +kernel)
set_option maxRecDepth 20000 in
theorem gL_law_X1_numbers : GoodIn wsL_law (wsV RL 53 RX1 yX1_numbers wsX1_numbers) := goodIn_app (goodIn_of _ (by decide +kernel)) ggL_law_X1_numbers
set_option maxRecDepth 20000 in
theorem ggL_law_X0_isThere : GoodIn wsL_law wsX0_isThere := goodIn_r _ [95, 16, 96, 97, 2, 98, 74, 75, 76, 183, 184, 185, 186, 187, 188, 189, 190, 191, 192, 193, 194, 195, 196] (by decide +kernel) (by decide +kernel)
set_option maxRecDepth 20000 in
theorem gL_law_X0_isThere : GoodIn wsL_law (wsV RL 54 RX0 yX0_isThere wsX0_isThere) := goodIn_app (goodIn_of _ (by decide +kernel)) ggL_law_X0_isThere
set_option maxRecDepth 20000 in
theorem ggL_law_X1_isThere : GoodIn wsL_law wsX1_isThere := goodIn_r _ [132, 38, 197, 198, 199, 200, 201, 202, 203, 204, 205, 206, 207, 208, 209] (by decide +kernel) (by decide +kernel)
set_option maxRecDepth 20000 in
theorem gL_law_X1_isThere : GoodIn wsL_law (wsV RL 57 RX1 yX1_isThere wsX1_isThere) := goodIn_app (goodIn_of _ (by decide +kernel)) ggL_law_X1_isThere
set_option maxRecDepth 20000 in
theorem ggL_law_X0_again : GoodIn wsL_law wsX0_again := goodIn_r _ [174, 86, 87, 88, 2, 89, 85, 90, 20, 91, 55, 56, 57, 92, 93, 94, 95, 16, 96, 97, 98, 74, 75, 76, 99, 100, 101, 102, 19, 103, 18, 21, 183, 184, 185, 186, 187, 188, 189, 190, 191, 192, 193, 194, 195, 196] (by decide +kernel) (by decide +kernel)
set_option maxRecDepth 20000 in
theorem gL_law_X0_again : GoodIn wsL_law (wsV RL 58 RX0 yX0_again wsX0_again) := goodIn_app (goodIn_of _ (by decide +kernel)) ggL_law_X0_again
set_option maxRecDepth 20000 in
theorem ggL_law_X1_again : GoodIn wsL_law wsX1_again := goodIn_r _ [178, 125, 126, 127, 5, 128, 50, 36, 129, 130, 131, 132, 38, 133, 134, 135, 136, 137, 138, 139, 140, 141, 34, 35, 197, 198, 199, 200, 201, 202, 203, 204, 205, 206, 207, 208, 209] (by decide +kernel) (by decide +kernel)
set_option maxRecDepth 20000 in
theorem gL_law_X1_again : GoodIn wsL_law (wsV RL 61 RX1 yX1_again wsX1_again) := goodIn_app (goodIn_of _ (by decide +kernel)) ggL_law_X1_again
set_option maxRecDepth 20000 in
theorem ggL_law_X0_log : GoodIn wsL_law wsX0_log := goodIn_r _ [182, 86, 87, 88, 2, 89, 85, 90, 20, 91, 55, 56, 57, 92, 93, 94, 95, 16, 96, 97, 98, 74, 75, 76, 99, 100, 101, 102, 19, 103, 18, 21, 104, 105, 106, 107, 29, 108, 109, 110, 183, 184, 185, 186, 187, 188, 189, 190, 191, 192, 193, 194, 195, 196] (by decide +kernel) (by decide +kernel)
set_option maxRecDepth 20000 in
theorem gL_law_X0_log : GoodIn wsL_law (wsV RL 62 RX0 yX0_log wsX0_log) := goodIn_app (goodIn_of _ (by decide +kernel)) ggL_law_X0_log
abbrev vwCl : List vw_C := [(RX0, TX0, 14), (RX1, TX1, 13)]
