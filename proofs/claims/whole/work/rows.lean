section
/-- a private method of a class that the tables say can be made, by its rows of tables_1 -/
def lw_okq (q : MethodName × Nat) : Prop := (q.1.cls ≠ "java/lang/invoke/MethodHandle" ∧ q.1.cls ≠ "java/lang/invoke/VarHandle") ∧ Cond.instantiable q.1.cls q.2 ∈ tables_1 ∧ Cond.privateMethod q.1 ∈ tables_1 ∧ Cond.instanceMethod q.1 ∈ tables_1
theorem lw_p0 : lw_okq (⟨"KeySums$Summer", "restart", "()V"⟩, 6) := ⟨⟨by decide +kernel, by decide +kernel⟩, List.mem_of_getElem? (i := 13) (by decide +kernel), List.mem_of_getElem? (i := 19) (by decide +kernel), List.mem_of_getElem? (i := 20) (by decide +kernel)⟩
theorem lw_p1 : lw_okq (⟨"KeySums", "writeNumber", "(II)V"⟩, 6) := ⟨⟨by decide +kernel, by decide +kernel⟩, List.mem_of_getElem? (i := 5) (by decide +kernel), List.mem_of_getElem? (i := 76) (by decide +kernel), List.mem_of_getElem? (i := 77) (by decide +kernel)⟩
theorem lw_p2 : lw_okq (⟨"KeySums$Summer", "take", "(I)V"⟩, 6) := ⟨⟨by decide +kernel, by decide +kernel⟩, List.mem_of_getElem? (i := 13) (by decide +kernel), List.mem_of_getElem? (i := 88) (by decide +kernel), List.mem_of_getElem? (i := 89) (by decide +kernel)⟩
theorem lw_p3 : lw_okq (⟨"KeySums$Summer", "mixBlock", "()V"⟩, 6) := ⟨⟨by decide +kernel, by decide +kernel⟩, List.mem_of_getElem? (i := 13) (by decide +kernel), List.mem_of_getElem? (i := 92) (by decide +kernel), List.mem_of_getElem? (i := 93) (by decide +kernel)⟩
theorem lw_p4 : lw_okq (⟨"KeySums$Summer", "close", "()V"⟩, 6) := ⟨⟨by decide +kernel, by decide +kernel⟩, List.mem_of_getElem? (i := 13) (by decide +kernel), List.mem_of_getElem? (i := 121) (by decide +kernel), List.mem_of_getElem? (i := 122) (by decide +kernel)⟩
theorem lw_p5 : lw_okq (⟨"KeySumsModel", "anew", "()V"⟩, 14) := ⟨⟨by decide +kernel, by decide +kernel⟩, List.mem_of_getElem? (i := 132) (by decide +kernel), List.mem_of_getElem? (i := 206) (by decide +kernel), List.mem_of_getElem? (i := 207) (by decide +kernel)⟩
theorem lw_p6 : lw_okq (⟨"KeySumsModel", "lay", "(I)V"⟩, 14) := ⟨⟨by decide +kernel, by decide +kernel⟩, List.mem_of_getElem? (i := 132) (by decide +kernel), List.mem_of_getElem? (i := 257) (by decide +kernel), List.mem_of_getElem? (i := 258) (by decide +kernel)⟩
theorem lw_p7 : lw_okq (⟨"KeySumsModel", "come", "(I)V"⟩, 14) := ⟨⟨by decide +kernel, by decide +kernel⟩, List.mem_of_getElem? (i := 132) (by decide +kernel), List.mem_of_getElem? (i := 269) (by decide +kernel), List.mem_of_getElem? (i := 270) (by decide +kernel)⟩
theorem lw_p8 : lw_okq (⟨"KeySumsModel", "step", "(I)V"⟩, 14) := ⟨⟨by decide +kernel, by decide +kernel⟩, List.mem_of_getElem? (i := 132) (by decide +kernel), List.mem_of_getElem? (i := 273) (by decide +kernel), List.mem_of_getElem? (i := 274) (by decide +kernel)⟩
theorem lw_p9 : lw_okq (⟨"KeySumsModel", "mixed", "(I)I"⟩, 14) := ⟨⟨by decide +kernel, by decide +kernel⟩, List.mem_of_getElem? (i := 132) (by decide +kernel), List.mem_of_getElem? (i := 277) (by decide +kernel), List.mem_of_getElem? (i := 278) (by decide +kernel)⟩
theorem lw_p10 : lw_okq (⟨"KeySumsModel", "word", "(I)I"⟩, 14) := ⟨⟨by decide +kernel, by decide +kernel⟩, List.mem_of_getElem? (i := 132) (by decide +kernel), List.mem_of_getElem? (i := 281) (by decide +kernel), List.mem_of_getElem? (i := 282) (by decide +kernel)⟩
def lw_privs_1 : List (MethodName × Nat) := [(⟨"KeySums$Summer", "restart", "()V"⟩, 6), (⟨"KeySums", "writeNumber", "(II)V"⟩, 6), (⟨"KeySums$Summer", "take", "(I)V"⟩, 6), (⟨"KeySums$Summer", "mixBlock", "()V"⟩, 6), (⟨"KeySums$Summer", "close", "()V"⟩, 6), (⟨"KeySumsModel", "anew", "()V"⟩, 14), (⟨"KeySumsModel", "lay", "(I)V"⟩, 14), (⟨"KeySumsModel", "come", "(I)V"⟩, 14), (⟨"KeySumsModel", "step", "(I)V"⟩, 14), (⟨"KeySumsModel", "mixed", "(I)I"⟩, 14), (⟨"KeySumsModel", "word", "(I)I"⟩, 14)]
theorem lw_r1 : ∀ q ∈ lw_privs_1, lw_okq q := List.forall_mem_cons.mpr ⟨lw_p0, List.forall_mem_cons.mpr ⟨lw_p1, List.forall_mem_cons.mpr ⟨lw_p2, List.forall_mem_cons.mpr ⟨lw_p3, List.forall_mem_cons.mpr ⟨lw_p4, List.forall_mem_cons.mpr ⟨lw_p5, List.forall_mem_cons.mpr ⟨lw_p6, List.forall_mem_cons.mpr ⟨lw_p7, List.forall_mem_cons.mpr ⟨lw_p8, List.forall_mem_cons.mpr ⟨lw_p9, List.forall_mem_cons.mpr ⟨lw_p10, fun _ h => absurd h List.not_mem_nil⟩⟩⟩⟩⟩⟩⟩⟩⟩⟩⟩
def lw_privs : List (MethodName × Nat) := lw_privs_1
def lw_tbl : List Cond := k2_sels lw_privs ++ tables_1
theorem lw_privs_ok : ∀ q ∈ lw_privs, lw_okq q := lw_r1
end
section
theorem goodIn_r {big : List Cond} (ws : List Cond) (ps : List Nat) (hp : ws = ps.filterMap (fun i => big[i]?)) (h : ws.all goodWord = true) : GoodIn big ws := by
  intro w hw
  have h1 := List.all_eq_true.mp h w hw
  rw [hp] at hw
  obtain ⟨i, -, hi⟩ := List.mem_filterMap.mp hw
  have hm : w ∈ big := by first | exact List.mem_of_getElem? hi | exact List.getElem?_mem hi
  exact ⟨hm, good_of_word h1⟩
theorem goodIn_app {big a b : List Cond} (ha : GoodIn big a) (hb : GoodIn big b) : GoodIn big (a ++ b) := fun w h => (List.mem_append.mp h).elim (ha w) (hb w)
theorem goodIn_ca {big a b : List Cond} {c : Cond} (ha : GoodIn big (c :: a)) (hb : GoodIn big b) : GoodIn big (c :: (a ++ b)) := fun w h => (List.mem_cons.mp h).elim (fun e => ha w (List.mem_cons.mpr (Or.inl e))) (fun h => (List.mem_append.mp h).elim (fun h => ha w (List.mem_cons.mpr (Or.inr h))) (hb w))
theorem goodIn_sub {big ws : List Cond} (hm : ∀ w ∈ ws, w ∈ big) (h : ws.all goodWord = true) : GoodIn big ws := fun w hw => ⟨hm w hw, good_of_word (List.all_eq_true.mp h w hw)⟩

def RX0 : String := "KeySums$Summer"
def TX0 : u_T := fun k => match k with
  | 0 => ("KeySums$Summer", "words", "[I", true)
  | 1 => ("KeySums$Summer", "count", "I", false)
  | 2 => ("KeySums$Summer", "a", "I", false)
  | 3 => ("KeySums$Summer", "b", "I", false)
  | 4 => ("KeySums$Summer", "c", "I", false)
  | _ => ("KeySums$Summer", "d", "I", false)
def tyX0 : Nat → FieldType := fun k => match k with
  | 0 => .array .int
  | 1 => .int
  | 2 => .int
  | 3 => .int
  | 4 => .int
  | _ => .int
abbrev wsX00 : List Cond := u_ws RX0 TX0 6
theorem nmX0 : ∀ a, a < 6 → ∀ b, b < 6 → a ≠ b → (TX0 a).2.1 ≠ (TX0 b).2.1 := by decide +kernel
theorem tyX0_ok : ∀ k, k < 6 → parseFieldDescriptor (TX0 k).2.2.1 = some (tyX0 k) := by decide +kernel
abbrev cX0_init : ByteArray := prog_2_method_1_code
def yX0_init : MethodName := ⟨RX0, "<init>", "()V"⟩
abbrev cX0_restart : ByteArray := prog_2_method_2_code
def yX0_restart : MethodName := ⟨RX0, "restart", "()V"⟩
abbrev cX0_take : ByteArray := prog_2_method_3_code
def yX0_take : MethodName := ⟨RX0, "take", "(I)V"⟩
abbrev cX0_close : ByteArray := prog_2_method_4_code
def yX0_close : MethodName := ⟨RX0, "close", "()V"⟩
abbrev cX0_mixBlock : ByteArray := prog_2_method_5_code
def yX0_mixBlock : MethodName := ⟨RX0, "mixBlock", "()V"⟩
abbrev cX0_choose : ByteArray := prog_2_method_6_code
def yX0_choose : MethodName := ⟨RX0, "choose", "(IIII)I"⟩
abbrev cX0_wordOf : ByteArray := prog_2_method_7_code
def yX0_wordOf : MethodName := ⟨RX0, "wordOf", "(II)I"⟩
abbrev cX0_turnLeft : ByteArray := prog_2_method_8_code
def yX0_turnLeft : MethodName := ⟨RX0, "turnLeft", "(II)I"⟩
def RX1 : String := "KeySums"
def TX1 : u_T := fun k => match k with
  | 0 => ("KeySums", "tape", "[B", true)
  | 1 => ("KeySums", "tapeSize", "I", false)
  | 2 => ("KeySums", "keyBytes", "[B", true)
  | 3 => ("KeySums", "summer", "LKeySums$Summer;", true)
  | 4 => ("KeySums", "keptSum", "[I", true)
  | _ => ("KeySums", "hasSum", "Z", false)
def tyX1 : Nat → FieldType := fun k => match k with
  | 0 => .array .byte
  | 1 => .int
  | 2 => .array .byte
  | 3 => .object "KeySums$Summer"
  | 4 => .array .int
  | _ => .boolean
abbrev wsX10 : List Cond := u_ws RX1 TX1 6
theorem nmX1 : ∀ a, a < 6 → ∀ b, b < 6 → a ≠ b → (TX1 a).2.1 ≠ (TX1 b).2.1 := by decide +kernel
theorem tyX1_ok : ∀ k, k < 6 → parseFieldDescriptor (TX1 k).2.2.1 = some (tyX1 k) := by decide +kernel
abbrev cX1_init : ByteArray := prog_1_method_1_code
def yX1_init : MethodName := ⟨RX1, "<init>", "()V"⟩
abbrev cX1_feed : ByteArray := prog_1_method_2_code
def yX1_feed : MethodName := ⟨RX1, "feed", "(IIIII)Z"⟩
abbrev cX1_end : ByteArray := prog_1_method_3_code
def yX1_end : MethodName := ⟨RX1, "end", "(I)Z"⟩
abbrev cX1_add : ByteArray := prog_1_method_4_code
def yX1_add : MethodName := ⟨RX1, "add", "()I"⟩
abbrev cX1_fill : ByteArray := prog_1_method_5_code
def yX1_fill : MethodName := ⟨RX1, "fill", "(II)I"⟩
abbrev cX1_key : ByteArray := prog_1_method_6_code
def yX1_key : MethodName := ⟨RX1, "key", "()I"⟩
abbrev cX1_sum : ByteArray := prog_1_method_7_code
def yX1_sum : MethodName := ⟨RX1, "sum", "(Z)I"⟩
abbrev cX1_sumAt : ByteArray := prog_1_method_8_code
def yX1_sumAt : MethodName := ⟨RX1, "sumAt", "(I)I"⟩
abbrev cX1_writeNumber : ByteArray := prog_1_method_9_code
def yX1_writeNumber : MethodName := ⟨RX1, "writeNumber", "(II)V"⟩
def RL : String := "KeySumsLaw"
abbrev cL_law : ByteArray := code
def yL_law : MethodName := ⟨RL, "law", "([I)Z"⟩
def wsX0_restart : List Cond := .code yX0_restart cX0_restart 1 none :: ([.fieldLink RX0 16 "KeySums$Summer" "count" "I", .constant RX0 20 (1732584193), .fieldLink RX0 21 "KeySums$Summer" "a" "I", .constant RX0 24 (-271733879), .fieldLink RX0 25 "KeySums$Summer" "b" "I", .constant RX0 28 (-1732584194), .fieldLink RX0 29 "KeySums$Summer" "c" "I", .constant RX0 32 (271733878), .fieldLink RX0 33 "KeySums$Summer" "d" "I"] ++ wsX00)
def wsX0_init : List Cond := .code yX0_init cX0_init 1 none :: ([.methodLink RX0 1 objectInit, .instanceMethod objectInit, .code objectInit ⟨#[0xb1]⟩ 1 none, .arrayClass .int, .fieldLink RX0 7 "KeySums$Summer" "words" "[I", .methodLink RX0 13 yX0_restart, .instanceMethod yX0_restart, .selects RX0 yX0_restart yX0_restart, .initialized RX0, .code yX0_restart cX0_restart 1 none, .fieldLink RX0 16 "KeySums$Summer" "count" "I", .constant RX0 20 (1732584193), .fieldLink RX0 21 "KeySums$Summer" "a" "I", .constant RX0 24 (-271733879), .fieldLink RX0 25 "KeySums$Summer" "b" "I", .constant RX0 28 (-1732584194), .fieldLink RX0 29 "KeySums$Summer" "c" "I", .constant RX0 32 (271733878), .fieldLink RX0 33 "KeySums$Summer" "d" "I"] ++ wsX00)
def wsX0_choose : List Cond := .code yX0_choose cX0_choose 4 (some .int) :: ([])
def wsX0_wordOf : List Cond := .code yX0_wordOf cX0_wordOf 2 (some .int) :: ([])
def wsX0_turnLeft : List Cond := .code yX0_turnLeft cX0_turnLeft 2 (some .int) :: ([])
def wsX0_mixBlock : List Cond := .code yX0_mixBlock cX0_mixBlock 9 none :: ([.fieldLink RX0 21 "KeySums$Summer" "a" "I", .fieldLink RX0 25 "KeySums$Summer" "b" "I", .fieldLink RX0 29 "KeySums$Summer" "c" "I", .fieldLink RX0 33 "KeySums$Summer" "d" "I", .fieldLink RX0 49 "KeySums$Summer" "SINES" "[I", .fieldLink RX0 7 "KeySums$Summer" "words" "[I", .fieldLink RX0 56 "KeySums$Summer" "TURNS" "[I", .methodLink RX0 45 yX0_choose, .static yX0_choose, .initialized RX0, .code yX0_choose cX0_choose 4 (some .int), .methodLink RX0 52 yX0_wordOf, .static yX0_wordOf, .code yX0_wordOf cX0_wordOf 2 (some .int), .methodLink RX0 59 yX0_turnLeft, .static yX0_turnLeft, .code yX0_turnLeft cX0_turnLeft 2 (some .int)] ++ wsX00)
def wsX0_take : List Cond := .code yX0_take cX0_take 3 none :: ([.fieldLink RX0 16 "KeySums$Summer" "count" "I", .fieldLink RX0 7 "KeySums$Summer" "words" "[I", .methodLink RX0 36 yX0_mixBlock, .instanceMethod yX0_mixBlock, .selects RX0 yX0_mixBlock yX0_mixBlock, .initialized RX0, .code yX0_mixBlock cX0_mixBlock 9 none, .fieldLink RX0 21 "KeySums$Summer" "a" "I", .fieldLink RX0 25 "KeySums$Summer" "b" "I", .fieldLink RX0 29 "KeySums$Summer" "c" "I", .fieldLink RX0 33 "KeySums$Summer" "d" "I", .fieldLink RX0 49 "KeySums$Summer" "SINES" "[I", .fieldLink RX0 56 "KeySums$Summer" "TURNS" "[I", .methodLink RX0 45 yX0_choose, .static yX0_choose, .code yX0_choose cX0_choose 4 (some .int), .methodLink RX0 52 yX0_wordOf, .static yX0_wordOf, .code yX0_wordOf cX0_wordOf 2 (some .int), .methodLink RX0 59 yX0_turnLeft, .static yX0_turnLeft, .code yX0_turnLeft cX0_turnLeft 2 (some .int)] ++ wsX00)
def wsX0_close_r1 : List Cond := [Cond.fieldLink RX0 16 "KeySums$Summer" "count" "I", Cond.constantLong RX0 39 (8), Cond.methodLink RX0 41 yX0_take, Cond.instanceMethod yX0_take, Cond.selects RX0 yX0_take yX0_take, Cond.initialized RX0, Cond.code yX0_take cX0_take 3 none, Cond.fieldLink RX0 7 "KeySums$Summer" "words" "[I", Cond.methodLink RX0 36 yX0_mixBlock, Cond.instanceMethod yX0_mixBlock, Cond.selects RX0 yX0_mixBlock yX0_mixBlock, Cond.code yX0_mixBlock cX0_mixBlock 9 none, Cond.fieldLink RX0 21 "KeySums$Summer" "a" "I", Cond.fieldLink RX0 25 "KeySums$Summer" "b" "I", Cond.fieldLink RX0 29 "KeySums$Summer" "c" "I", Cond.fieldLink RX0 33 "KeySums$Summer" "d" "I", Cond.fieldLink RX0 49 "KeySums$Summer" "SINES" "[I", Cond.fieldLink RX0 56 "KeySums$Summer" "TURNS" "[I", Cond.methodLink RX0 45 yX0_choose, Cond.static yX0_choose, Cond.code yX0_choose cX0_choose 4 (some .int), Cond.methodLink RX0 52 yX0_wordOf, Cond.static yX0_wordOf, Cond.code yX0_wordOf cX0_wordOf 2 (some .int)]
def wsX0_close_r2 : List Cond := [Cond.methodLink RX0 59 yX0_turnLeft, Cond.static yX0_turnLeft, Cond.code yX0_turnLeft cX0_turnLeft 2 (some .int)]
def wsX0_close : List Cond := .code yX0_close cX0_close 5 none :: ((wsX0_close_r1 ++ wsX0_close_r2) ++ wsX00)
def wsX1_init_r1 : List Cond := [Cond.methodLink RX1 1 objectInit, Cond.instanceMethod objectInit, Cond.code objectInit ⟨#[0xb1]⟩ 1 none, Cond.arrayClass .byte, Cond.fieldLink RX1 9 "KeySums" "tape" "[B", Cond.fieldLink RX1 13 "KeySums" "tapeSize" "I", Cond.fieldLink RX1 17 "KeySums" "keyBytes" "[B", Cond.classLink RX1 20 RX0, Cond.instantiable RX0 6, Cond.initialized RX0, Cond.fieldLink RX1 23 "KeySums" "summer" "LKeySums$Summer;", Cond.arrayClass .int, Cond.fieldLink RX1 27 "KeySums" "keptSum" "[I", Cond.fieldLink RX1 31 "KeySums" "hasSum" "Z", Cond.instanceMethod yX0_init, Cond.code yX0_init cX0_init 1 none, Cond.methodLink RX0 1 objectInit, Cond.fieldLink RX0 7 "KeySums$Summer" "words" "[I", Cond.methodLink RX0 13 yX0_restart, Cond.instanceMethod yX0_restart, Cond.selects RX0 yX0_restart yX0_restart, Cond.code yX0_restart cX0_restart 1 none, Cond.fieldLink RX0 16 "KeySums$Summer" "count" "I", Cond.constant RX0 20 (1732584193)]
def wsX1_init_r2 : List Cond := [Cond.fieldLink RX0 21 "KeySums$Summer" "a" "I", Cond.constant RX0 24 (-271733879), Cond.fieldLink RX0 25 "KeySums$Summer" "b" "I", Cond.constant RX0 28 (-1732584194), Cond.fieldLink RX0 29 "KeySums$Summer" "c" "I", Cond.constant RX0 32 (271733878), Cond.fieldLink RX0 33 "KeySums$Summer" "d" "I"]
def wsX1_init : List Cond := .code yX1_init cX1_init 1 none :: ((wsX1_init_r1 ++ wsX1_init_r2) ++ wsX10 ++ wsX00)
def wsX1_writeNumber : List Cond := .code yX1_writeNumber cX1_writeNumber 3 none :: ([.fieldLink RX1 9 "KeySums" "tape" "[B"] ++ wsX10)
def wsX1_feed : List Cond := .code yX1_feed cX1_feed 6 (some .boolean) :: ([.fieldLink RX1 13 "KeySums" "tapeSize" "I", .methodLink RX1 35 yX1_writeNumber, .instanceMethod yX1_writeNumber, .selects RX1 yX1_writeNumber yX1_writeNumber, .initialized RX1, .code yX1_writeNumber cX1_writeNumber 3 none, .fieldLink RX1 9 "KeySums" "tape" "[B"] ++ wsX10)
def wsX1_end : List Cond := .code yX1_end cX1_end 2 (some .boolean) :: ([.fieldLink RX1 13 "KeySums" "tapeSize" "I"] ++ wsX10)
def wsX1_add_r1 : List Cond := [Cond.fieldLink RX1 13 "KeySums" "tapeSize" "I", Cond.fieldLink RX1 23 "KeySums" "summer" "LKeySums$Summer;", Cond.fieldLink RX1 9 "KeySums" "tape" "[B", Cond.instanceMethod yX0_take, Cond.initialized RX0, Cond.selects RX0 yX0_take yX0_take, Cond.code yX0_take cX0_take 3 none, Cond.fieldLink RX0 16 "KeySums$Summer" "count" "I", Cond.fieldLink RX0 7 "KeySums$Summer" "words" "[I", Cond.methodLink RX0 36 yX0_mixBlock, Cond.instanceMethod yX0_mixBlock, Cond.selects RX0 yX0_mixBlock yX0_mixBlock, Cond.code yX0_mixBlock cX0_mixBlock 9 none, Cond.fieldLink RX0 21 "KeySums$Summer" "a" "I", Cond.fieldLink RX0 25 "KeySums$Summer" "b" "I", Cond.fieldLink RX0 29 "KeySums$Summer" "c" "I", Cond.fieldLink RX0 33 "KeySums$Summer" "d" "I", Cond.fieldLink RX0 49 "KeySums$Summer" "SINES" "[I", Cond.fieldLink RX0 56 "KeySums$Summer" "TURNS" "[I", Cond.methodLink RX0 45 yX0_choose, Cond.static yX0_choose, Cond.code yX0_choose cX0_choose 4 (some .int), Cond.methodLink RX0 52 yX0_wordOf, Cond.static yX0_wordOf]
def wsX1_add_r2 : List Cond := [Cond.code yX0_wordOf cX0_wordOf 2 (some .int), Cond.methodLink RX0 59 yX0_turnLeft, Cond.static yX0_turnLeft, Cond.code yX0_turnLeft cX0_turnLeft 2 (some .int)]
def wsX1_add : List Cond := .code yX1_add cX1_add 2 (some .int) :: ((wsX1_add_r1 ++ wsX1_add_r2) ++ wsX10 ++ wsX00)
def wsX1_fill_r1 : List Cond := [Cond.fieldLink RX1 23 "KeySums" "summer" "LKeySums$Summer;", Cond.instanceMethod yX0_take, Cond.initialized RX0, Cond.selects RX0 yX0_take yX0_take, Cond.code yX0_take cX0_take 3 none, Cond.fieldLink RX0 16 "KeySums$Summer" "count" "I", Cond.fieldLink RX0 7 "KeySums$Summer" "words" "[I", Cond.methodLink RX0 36 yX0_mixBlock, Cond.instanceMethod yX0_mixBlock, Cond.selects RX0 yX0_mixBlock yX0_mixBlock, Cond.code yX0_mixBlock cX0_mixBlock 9 none, Cond.fieldLink RX0 21 "KeySums$Summer" "a" "I", Cond.fieldLink RX0 25 "KeySums$Summer" "b" "I", Cond.fieldLink RX0 29 "KeySums$Summer" "c" "I", Cond.fieldLink RX0 33 "KeySums$Summer" "d" "I", Cond.fieldLink RX0 49 "KeySums$Summer" "SINES" "[I", Cond.fieldLink RX0 56 "KeySums$Summer" "TURNS" "[I", Cond.methodLink RX0 45 yX0_choose, Cond.static yX0_choose, Cond.code yX0_choose cX0_choose 4 (some .int), Cond.methodLink RX0 52 yX0_wordOf, Cond.static yX0_wordOf, Cond.code yX0_wordOf cX0_wordOf 2 (some .int), Cond.methodLink RX0 59 yX0_turnLeft]
def wsX1_fill_r2 : List Cond := [Cond.static yX0_turnLeft, Cond.code yX0_turnLeft cX0_turnLeft 2 (some .int)]
def wsX1_fill : List Cond := .code yX1_fill cX1_fill 4 (some .int) :: ((wsX1_fill_r1 ++ wsX1_fill_r2) ++ wsX10 ++ wsX00)
def wsX1_key : List Cond := .code yX1_key cX1_key 3 (some .int) :: ([.fieldLink RX1 13 "KeySums" "tapeSize" "I", .fieldLink RX1 17 "KeySums" "keyBytes" "[B", .fieldLink RX1 9 "KeySums" "tape" "[B"] ++ wsX10)
def wsX1_sum_r1 : List Cond := [Cond.fieldLink RX1 23 "KeySums" "summer" "LKeySums$Summer;", Cond.fieldLink RX1 17 "KeySums" "keyBytes" "[B", Cond.fieldLink RX1 27 "KeySums" "keptSum" "[I", Cond.fieldLink RX1 31 "KeySums" "hasSum" "Z", Cond.instanceMethod yX0_take, Cond.initialized RX0, Cond.selects RX0 yX0_take yX0_take, Cond.code yX0_take cX0_take 3 none, Cond.fieldLink RX0 16 "KeySums$Summer" "count" "I", Cond.fieldLink RX0 7 "KeySums$Summer" "words" "[I", Cond.methodLink RX0 36 yX0_mixBlock, Cond.instanceMethod yX0_mixBlock, Cond.selects RX0 yX0_mixBlock yX0_mixBlock, Cond.code yX0_mixBlock cX0_mixBlock 9 none, Cond.fieldLink RX0 21 "KeySums$Summer" "a" "I", Cond.fieldLink RX0 25 "KeySums$Summer" "b" "I", Cond.fieldLink RX0 29 "KeySums$Summer" "c" "I", Cond.fieldLink RX0 33 "KeySums$Summer" "d" "I", Cond.fieldLink RX0 49 "KeySums$Summer" "SINES" "[I", Cond.fieldLink RX0 56 "KeySums$Summer" "TURNS" "[I", Cond.methodLink RX0 45 yX0_choose, Cond.static yX0_choose, Cond.code yX0_choose cX0_choose 4 (some .int), Cond.methodLink RX0 52 yX0_wordOf]
def wsX1_sum_r2 : List Cond := [Cond.static yX0_wordOf, Cond.code yX0_wordOf cX0_wordOf 2 (some .int), Cond.methodLink RX0 59 yX0_turnLeft, Cond.static yX0_turnLeft, Cond.code yX0_turnLeft cX0_turnLeft 2 (some .int), Cond.instanceMethod yX0_close, Cond.selects RX0 yX0_close yX0_close, Cond.code yX0_close cX0_close 5 none, Cond.constantLong RX0 39 (8), Cond.methodLink RX0 41 yX0_take, Cond.instanceMethod yX0_restart, Cond.selects RX0 yX0_restart yX0_restart, Cond.code yX0_restart cX0_restart 1 none, Cond.constant RX0 20 (1732584193), Cond.constant RX0 24 (-271733879), Cond.constant RX0 28 (-1732584194), Cond.constant RX0 32 (271733878)]
def wsX1_sum : List Cond := .code yX1_sum cX1_sum 4 (some .int) :: ((wsX1_sum_r1 ++ wsX1_sum_r2) ++ wsX10 ++ wsX00)
def wsX1_sumAt : List Cond := .code yX1_sumAt cX1_sumAt 2 (some .int) :: ([.fieldLink RX1 31 "KeySums" "hasSum" "Z", .fieldLink RX1 27 "KeySums" "keptSum" "[I"] ++ wsX10)
set_option maxRecDepth 20000 in
theorem ggX0_init_X0_restart : GoodIn wsX0_init wsX0_restart := goodIn_r _ [10, 11, 12, 13, 14, 15, 16, 17, 18, 19, 20, 21, 22, 23, 24, 25] (by decide +kernel) (by decide +kernel)
set_option maxRecDepth 20000 in
theorem gX0_init_X0_restart : GoodIn wsX0_init (wsV RX0 13 RX0 yX0_restart wsX0_restart) := goodIn_app (goodIn_of _ (by decide +kernel)) ggX0_init_X0_restart
theorem dX0_init_0 : decode cX0_init 0 = .ok (.aload_n 0, 1) := by decide +kernel
theorem dX0_init_1 : decode cX0_init 1 = .ok (.invokespecial 1, 3) := by decide +kernel
theorem dX0_init_4 : decode cX0_init 4 = .ok (.aload_n 0, 1) := by decide +kernel
theorem dX0_init_5 : decode cX0_init 5 = .ok (.bipush 16, 2) := by decide +kernel
theorem dX0_init_7 : decode cX0_init 7 = .ok (.newarray .int, 2) := by decide +kernel
theorem dX0_init_9 : decode cX0_init 9 = .ok (.putfield 7, 3) := by decide +kernel
theorem dX0_init_12 : decode cX0_init 12 = .ok (.aload_n 0, 1) := by decide +kernel
theorem dX0_init_13 : decode cX0_init 13 = .ok (.invokevirtual 13, 3) := by decide +kernel
theorem dX0_init_16 : decode cX0_init 16 = .ok (.return_, 1) := by decide +kernel
theorem dX0_restart_0 : decode cX0_restart 0 = .ok (.aload_n 0, 1) := by decide +kernel
theorem dX0_restart_1 : decode cX0_restart 1 = .ok (.iconst 0, 1) := by decide +kernel
theorem dX0_restart_2 : decode cX0_restart 2 = .ok (.putfield 16, 3) := by decide +kernel
theorem dX0_restart_5 : decode cX0_restart 5 = .ok (.aload_n 0, 1) := by decide +kernel
theorem dX0_restart_6 : decode cX0_restart 6 = .ok (.ldc 20, 2) := by decide +kernel
theorem dX0_restart_8 : decode cX0_restart 8 = .ok (.putfield 21, 3) := by decide +kernel
theorem dX0_restart_11 : decode cX0_restart 11 = .ok (.aload_n 0, 1) := by decide +kernel
theorem dX0_restart_12 : decode cX0_restart 12 = .ok (.ldc 24, 2) := by decide +kernel
theorem dX0_restart_14 : decode cX0_restart 14 = .ok (.putfield 25, 3) := by decide +kernel
theorem dX0_restart_17 : decode cX0_restart 17 = .ok (.aload_n 0, 1) := by decide +kernel
theorem dX0_restart_18 : decode cX0_restart 18 = .ok (.ldc 28, 2) := by decide +kernel
theorem dX0_restart_20 : decode cX0_restart 20 = .ok (.putfield 29, 3) := by decide +kernel
theorem dX0_restart_23 : decode cX0_restart 23 = .ok (.aload_n 0, 1) := by decide +kernel
theorem dX0_restart_24 : decode cX0_restart 24 = .ok (.ldc 32, 2) := by decide +kernel
theorem dX0_restart_26 : decode cX0_restart 26 = .ok (.putfield 33, 3) := by decide +kernel
theorem dX0_restart_29 : decode cX0_restart 29 = .ok (.return_, 1) := by decide +kernel
set_option maxRecDepth 20000 in
theorem ggX0_take_X0_mixBlock : GoodIn wsX0_take wsX0_mixBlock := goodIn_r _ [7, 8, 9, 10, 11, 12, 2, 13, 14, 15, 6, 16, 17, 18, 19, 20, 21, 22, 23, 24, 25, 26, 27, 28] (by decide +kernel) (by decide +kernel)
set_option maxRecDepth 20000 in
theorem gX0_take_X0_mixBlock : GoodIn wsX0_take (wsV RX0 36 RX0 yX0_mixBlock wsX0_mixBlock) := goodIn_app (goodIn_of _ (by decide +kernel)) ggX0_take_X0_mixBlock
theorem dX0_take_0 : decode cX0_take 0 = .ok (.aload_n 0, 1) := by decide +kernel
theorem dX0_take_1 : decode cX0_take 1 = .ok (.getfield 16, 3) := by decide +kernel
theorem dX0_take_4 : decode cX0_take 4 = .ok (.bipush 63, 2) := by decide +kernel
theorem dX0_take_6 : decode cX0_take 6 = .ok (.iand, 1) := by decide +kernel
theorem dX0_take_7 : decode cX0_take 7 = .ok (.iconst 2, 1) := by decide +kernel
theorem dX0_take_8 : decode cX0_take 8 = .ok (.ishr, 1) := by decide +kernel
theorem dX0_take_9 : decode cX0_take 9 = .ok (.istore_n 2, 1) := by decide +kernel
theorem dX0_take_10 : decode cX0_take 10 = .ok (.aload_n 0, 1) := by decide +kernel
theorem dX0_take_11 : decode cX0_take 11 = .ok (.getfield 7, 3) := by decide +kernel
theorem dX0_take_14 : decode cX0_take 14 = .ok (.iload_n 2, 1) := by decide +kernel
theorem dX0_take_15 : decode cX0_take 15 = .ok (.aload_n 0, 1) := by decide +kernel
theorem dX0_take_16 : decode cX0_take 16 = .ok (.getfield 7, 3) := by decide +kernel
theorem dX0_take_19 : decode cX0_take 19 = .ok (.iload_n 2, 1) := by decide +kernel
theorem dX0_take_20 : decode cX0_take 20 = .ok (.iaload, 1) := by decide +kernel
theorem dX0_take_21 : decode cX0_take 21 = .ok (.bipush 8, 2) := by decide +kernel
theorem dX0_take_23 : decode cX0_take 23 = .ok (.iushr, 1) := by decide +kernel
theorem dX0_take_24 : decode cX0_take 24 = .ok (.iload_n 1, 1) := by decide +kernel
theorem dX0_take_25 : decode cX0_take 25 = .ok (.bipush 24, 2) := by decide +kernel
theorem dX0_take_27 : decode cX0_take 27 = .ok (.ishl, 1) := by decide +kernel
theorem dX0_take_28 : decode cX0_take 28 = .ok (.ior, 1) := by decide +kernel
theorem dX0_take_29 : decode cX0_take 29 = .ok (.iastore, 1) := by decide +kernel
theorem dX0_take_30 : decode cX0_take 30 = .ok (.aload_n 0, 1) := by decide +kernel
theorem dX0_take_31 : decode cX0_take 31 = .ok (.dup, 1) := by decide +kernel
theorem dX0_take_32 : decode cX0_take 32 = .ok (.getfield 16, 3) := by decide +kernel
theorem dX0_take_35 : decode cX0_take 35 = .ok (.iconst 1, 1) := by decide +kernel
theorem dX0_take_36 : decode cX0_take 36 = .ok (.iadd, 1) := by decide +kernel
theorem dX0_take_37 : decode cX0_take 37 = .ok (.putfield 16, 3) := by decide +kernel
theorem dX0_take_40 : decode cX0_take 40 = .ok (.aload_n 0, 1) := by decide +kernel
theorem dX0_take_41 : decode cX0_take 41 = .ok (.getfield 16, 3) := by decide +kernel
theorem dX0_take_44 : decode cX0_take 44 = .ok (.bipush 63, 2) := by decide +kernel
theorem dX0_take_46 : decode cX0_take 46 = .ok (.iand, 1) := by decide +kernel
theorem dX0_take_47 : decode cX0_take 47 = .ok (.ifCond .ne 7, 3) := by decide +kernel
theorem dX0_take_50 : decode cX0_take 50 = .ok (.aload_n 0, 1) := by decide +kernel
theorem dX0_take_51 : decode cX0_take 51 = .ok (.invokevirtual 36, 3) := by decide +kernel
theorem dX0_take_54 : decode cX0_take 54 = .ok (.return_, 1) := by decide +kernel
set_option maxRecDepth 20000 in
theorem ggX0_close_X0_take : GoodIn wsX0_close wsX0_take := goodIn_r _ [7, 1, 8, 9, 10, 11, 6, 12, 13, 14, 15, 16, 17, 18, 19, 20, 21, 22, 23, 24, 25, 26, 27, 28, 29, 30, 31, 32, 33] (by decide +kernel) (by decide +kernel)
set_option maxRecDepth 20000 in
theorem gX0_close_X0_take : GoodIn wsX0_close (wsV RX0 41 RX0 yX0_take wsX0_take) := goodIn_app (goodIn_of _ (by decide +kernel)) ggX0_close_X0_take
theorem dX0_close_0 : decode cX0_close 0 = .ok (.aload_n 0, 1) := by decide +kernel
theorem dX0_close_1 : decode cX0_close 1 = .ok (.getfield 16, 3) := by decide +kernel
theorem dX0_close_4 : decode cX0_close 4 = .ok (.i2l, 1) := by decide +kernel
theorem dX0_close_5 : decode cX0_close 5 = .ok (.ldc2_w 39, 3) := by decide +kernel
theorem dX0_close_8 : decode cX0_close 8 = .ok (.lmul, 1) := by decide +kernel
theorem dX0_close_9 : decode cX0_close 9 = .ok (.lstore_n 1, 1) := by decide +kernel
theorem dX0_close_10 : decode cX0_close 10 = .ok (.aload_n 0, 1) := by decide +kernel
theorem dX0_close_11 : decode cX0_close 11 = .ok (.sipush 128, 3) := by decide +kernel
theorem dX0_close_14 : decode cX0_close 14 = .ok (.invokevirtual 41, 3) := by decide +kernel
theorem dX0_close_17 : decode cX0_close 17 = .ok (.bipush 56, 2) := by decide +kernel
theorem dX0_close_19 : decode cX0_close 19 = .ok (.aload_n 0, 1) := by decide +kernel
theorem dX0_close_20 : decode cX0_close 20 = .ok (.getfield 16, 3) := by decide +kernel
theorem dX0_close_23 : decode cX0_close 23 = .ok (.isub, 1) := by decide +kernel
theorem dX0_close_24 : decode cX0_close 24 = .ok (.bipush 63, 2) := by decide +kernel
theorem dX0_close_26 : decode cX0_close 26 = .ok (.iand, 1) := by decide +kernel
theorem dX0_close_27 : decode cX0_close 27 = .ok (.istore_n 3, 1) := by decide +kernel
theorem dX0_close_28 : decode cX0_close 28 = .ok (.iconst 0, 1) := by decide +kernel
theorem dX0_close_29 : decode cX0_close 29 = .ok (.istore 4, 2) := by decide +kernel
theorem dX0_close_31 : decode cX0_close 31 = .ok (.iload 4, 2) := by decide +kernel
theorem dX0_close_33 : decode cX0_close 33 = .ok (.iload_n 3, 1) := by decide +kernel
theorem dX0_close_34 : decode cX0_close 34 = .ok (.if_icmp .ge 14, 3) := by decide +kernel
theorem dX0_close_37 : decode cX0_close 37 = .ok (.aload_n 0, 1) := by decide +kernel
theorem dX0_close_38 : decode cX0_close 38 = .ok (.iconst 0, 1) := by decide +kernel
theorem dX0_close_39 : decode cX0_close 39 = .ok (.invokevirtual 41, 3) := by decide +kernel
theorem dX0_close_42 : decode cX0_close 42 = .ok (.iinc 4 1, 3) := by decide +kernel
theorem dX0_close_45 : decode cX0_close 45 = .ok (.goto (-14), 3) := by decide +kernel
theorem dX0_close_48 : decode cX0_close 48 = .ok (.iconst 0, 1) := by decide +kernel
theorem dX0_close_49 : decode cX0_close 49 = .ok (.istore 4, 2) := by decide +kernel
theorem dX0_close_51 : decode cX0_close 51 = .ok (.iload 4, 2) := by decide +kernel
theorem dX0_close_53 : decode cX0_close 53 = .ok (.bipush 8, 2) := by decide +kernel
theorem dX0_close_55 : decode cX0_close 55 = .ok (.if_icmp .ge 21, 3) := by decide +kernel
theorem dX0_close_58 : decode cX0_close 58 = .ok (.aload_n 0, 1) := by decide +kernel
theorem dX0_close_59 : decode cX0_close 59 = .ok (.lload_n 1, 1) := by decide +kernel
theorem dX0_close_60 : decode cX0_close 60 = .ok (.bipush 8, 2) := by decide +kernel
theorem dX0_close_62 : decode cX0_close 62 = .ok (.iload 4, 2) := by decide +kernel
theorem dX0_close_64 : decode cX0_close 64 = .ok (.imul, 1) := by decide +kernel
theorem dX0_close_65 : decode cX0_close 65 = .ok (.lushr, 1) := by decide +kernel
theorem dX0_close_66 : decode cX0_close 66 = .ok (.l2i, 1) := by decide +kernel
theorem dX0_close_67 : decode cX0_close 67 = .ok (.invokevirtual 41, 3) := by decide +kernel
theorem dX0_close_70 : decode cX0_close 70 = .ok (.iinc 4 1, 3) := by decide +kernel
theorem dX0_close_73 : decode cX0_close 73 = .ok (.goto (-22), 3) := by decide +kernel
theorem dX0_close_76 : decode cX0_close 76 = .ok (.return_, 1) := by decide +kernel
set_option maxRecDepth 20000 in
theorem ggX0_mixBlock_X0_choose : GoodIn wsX0_mixBlock wsX0_choose := goodIn_r _ [11] (by decide +kernel) (by decide +kernel)
set_option maxRecDepth 20000 in
theorem gX0_mixBlock_X0_choose : GoodIn wsX0_mixBlock (va_wsS RX0 45 yX0_choose wsX0_choose) := goodIn_app (goodIn_of _ (by decide +kernel)) ggX0_mixBlock_X0_choose
set_option maxRecDepth 20000 in
theorem ggX0_mixBlock_X0_wordOf : GoodIn wsX0_mixBlock wsX0_wordOf := goodIn_r _ [14] (by decide +kernel) (by decide +kernel)
set_option maxRecDepth 20000 in
theorem gX0_mixBlock_X0_wordOf : GoodIn wsX0_mixBlock (va_wsS RX0 52 yX0_wordOf wsX0_wordOf) := goodIn_app (goodIn_of _ (by decide +kernel)) ggX0_mixBlock_X0_wordOf
set_option maxRecDepth 20000 in
theorem ggX0_mixBlock_X0_turnLeft : GoodIn wsX0_mixBlock wsX0_turnLeft := goodIn_r _ [17] (by decide +kernel) (by decide +kernel)
set_option maxRecDepth 20000 in
theorem gX0_mixBlock_X0_turnLeft : GoodIn wsX0_mixBlock (va_wsS RX0 59 yX0_turnLeft wsX0_turnLeft) := goodIn_app (goodIn_of _ (by decide +kernel)) ggX0_mixBlock_X0_turnLeft
theorem dX0_mixBlock_0 : decode cX0_mixBlock 0 = .ok (.aload_n 0, 1) := by decide +kernel
theorem dX0_mixBlock_1 : decode cX0_mixBlock 1 = .ok (.getfield 21, 3) := by decide +kernel
theorem dX0_mixBlock_4 : decode cX0_mixBlock 4 = .ok (.istore_n 1, 1) := by decide +kernel
theorem dX0_mixBlock_5 : decode cX0_mixBlock 5 = .ok (.aload_n 0, 1) := by decide +kernel
theorem dX0_mixBlock_6 : decode cX0_mixBlock 6 = .ok (.getfield 25, 3) := by decide +kernel
theorem dX0_mixBlock_9 : decode cX0_mixBlock 9 = .ok (.istore_n 2, 1) := by decide +kernel
theorem dX0_mixBlock_10 : decode cX0_mixBlock 10 = .ok (.aload_n 0, 1) := by decide +kernel
theorem dX0_mixBlock_11 : decode cX0_mixBlock 11 = .ok (.getfield 29, 3) := by decide +kernel
theorem dX0_mixBlock_14 : decode cX0_mixBlock 14 = .ok (.istore_n 3, 1) := by decide +kernel
theorem dX0_mixBlock_15 : decode cX0_mixBlock 15 = .ok (.aload_n 0, 1) := by decide +kernel
theorem dX0_mixBlock_16 : decode cX0_mixBlock 16 = .ok (.getfield 33, 3) := by decide +kernel
theorem dX0_mixBlock_19 : decode cX0_mixBlock 19 = .ok (.istore 4, 2) := by decide +kernel
theorem dX0_mixBlock_21 : decode cX0_mixBlock 21 = .ok (.iconst 0, 1) := by decide +kernel
theorem dX0_mixBlock_22 : decode cX0_mixBlock 22 = .ok (.istore 5, 2) := by decide +kernel
theorem dX0_mixBlock_24 : decode cX0_mixBlock 24 = .ok (.iload 5, 2) := by decide +kernel
theorem dX0_mixBlock_26 : decode cX0_mixBlock 26 = .ok (.bipush 64, 2) := by decide +kernel
theorem dX0_mixBlock_28 : decode cX0_mixBlock 28 = .ok (.if_icmp .ge 81, 3) := by decide +kernel
theorem dX0_mixBlock_31 : decode cX0_mixBlock 31 = .ok (.iload 5, 2) := by decide +kernel
theorem dX0_mixBlock_33 : decode cX0_mixBlock 33 = .ok (.iconst 4, 1) := by decide +kernel
theorem dX0_mixBlock_34 : decode cX0_mixBlock 34 = .ok (.ishr, 1) := by decide +kernel
theorem dX0_mixBlock_35 : decode cX0_mixBlock 35 = .ok (.istore 6, 2) := by decide +kernel
theorem dX0_mixBlock_37 : decode cX0_mixBlock 37 = .ok (.iload_n 1, 1) := by decide +kernel
theorem dX0_mixBlock_38 : decode cX0_mixBlock 38 = .ok (.iload 6, 2) := by decide +kernel
theorem dX0_mixBlock_40 : decode cX0_mixBlock 40 = .ok (.iload_n 2, 1) := by decide +kernel
theorem dX0_mixBlock_41 : decode cX0_mixBlock 41 = .ok (.iload_n 3, 1) := by decide +kernel
theorem dX0_mixBlock_42 : decode cX0_mixBlock 42 = .ok (.iload 4, 2) := by decide +kernel
theorem dX0_mixBlock_44 : decode cX0_mixBlock 44 = .ok (.invokestatic 45, 3) := by decide +kernel
theorem dX0_mixBlock_47 : decode cX0_mixBlock 47 = .ok (.iadd, 1) := by decide +kernel
theorem dX0_mixBlock_48 : decode cX0_mixBlock 48 = .ok (.getstatic 49, 3) := by decide +kernel
theorem dX0_mixBlock_51 : decode cX0_mixBlock 51 = .ok (.iload 5, 2) := by decide +kernel
theorem dX0_mixBlock_53 : decode cX0_mixBlock 53 = .ok (.iaload, 1) := by decide +kernel
theorem dX0_mixBlock_54 : decode cX0_mixBlock 54 = .ok (.iadd, 1) := by decide +kernel
theorem dX0_mixBlock_55 : decode cX0_mixBlock 55 = .ok (.aload_n 0, 1) := by decide +kernel
theorem dX0_mixBlock_56 : decode cX0_mixBlock 56 = .ok (.getfield 7, 3) := by decide +kernel
theorem dX0_mixBlock_59 : decode cX0_mixBlock 59 = .ok (.iload 6, 2) := by decide +kernel
theorem dX0_mixBlock_61 : decode cX0_mixBlock 61 = .ok (.iload 5, 2) := by decide +kernel
theorem dX0_mixBlock_63 : decode cX0_mixBlock 63 = .ok (.invokestatic 52, 3) := by decide +kernel
theorem dX0_mixBlock_66 : decode cX0_mixBlock 66 = .ok (.iaload, 1) := by decide +kernel
theorem dX0_mixBlock_67 : decode cX0_mixBlock 67 = .ok (.iadd, 1) := by decide +kernel
theorem dX0_mixBlock_68 : decode cX0_mixBlock 68 = .ok (.istore 7, 2) := by decide +kernel
theorem dX0_mixBlock_70 : decode cX0_mixBlock 70 = .ok (.iload 7, 2) := by decide +kernel
theorem dX0_mixBlock_72 : decode cX0_mixBlock 72 = .ok (.getstatic 56, 3) := by decide +kernel
theorem dX0_mixBlock_75 : decode cX0_mixBlock 75 = .ok (.iconst 4, 1) := by decide +kernel
theorem dX0_mixBlock_76 : decode cX0_mixBlock 76 = .ok (.iload 6, 2) := by decide +kernel
theorem dX0_mixBlock_78 : decode cX0_mixBlock 78 = .ok (.imul, 1) := by decide +kernel
theorem dX0_mixBlock_79 : decode cX0_mixBlock 79 = .ok (.iload 5, 2) := by decide +kernel
theorem dX0_mixBlock_81 : decode cX0_mixBlock 81 = .ok (.iconst 3, 1) := by decide +kernel
theorem dX0_mixBlock_82 : decode cX0_mixBlock 82 = .ok (.iand, 1) := by decide +kernel
theorem dX0_mixBlock_83 : decode cX0_mixBlock 83 = .ok (.iadd, 1) := by decide +kernel
theorem dX0_mixBlock_84 : decode cX0_mixBlock 84 = .ok (.iaload, 1) := by decide +kernel
theorem dX0_mixBlock_85 : decode cX0_mixBlock 85 = .ok (.invokestatic 59, 3) := by decide +kernel
theorem dX0_mixBlock_88 : decode cX0_mixBlock 88 = .ok (.istore 8, 2) := by decide +kernel
theorem dX0_mixBlock_90 : decode cX0_mixBlock 90 = .ok (.iload 4, 2) := by decide +kernel
theorem dX0_mixBlock_92 : decode cX0_mixBlock 92 = .ok (.istore_n 1, 1) := by decide +kernel
theorem dX0_mixBlock_93 : decode cX0_mixBlock 93 = .ok (.iload_n 3, 1) := by decide +kernel
theorem dX0_mixBlock_94 : decode cX0_mixBlock 94 = .ok (.istore 4, 2) := by decide +kernel
theorem dX0_mixBlock_96 : decode cX0_mixBlock 96 = .ok (.iload_n 2, 1) := by decide +kernel
theorem dX0_mixBlock_97 : decode cX0_mixBlock 97 = .ok (.istore_n 3, 1) := by decide +kernel
theorem dX0_mixBlock_98 : decode cX0_mixBlock 98 = .ok (.iload_n 2, 1) := by decide +kernel
theorem dX0_mixBlock_99 : decode cX0_mixBlock 99 = .ok (.iload 8, 2) := by decide +kernel
theorem dX0_mixBlock_101 : decode cX0_mixBlock 101 = .ok (.iadd, 1) := by decide +kernel
theorem dX0_mixBlock_102 : decode cX0_mixBlock 102 = .ok (.istore_n 2, 1) := by decide +kernel
theorem dX0_mixBlock_103 : decode cX0_mixBlock 103 = .ok (.iinc 5 1, 3) := by decide +kernel
theorem dX0_mixBlock_106 : decode cX0_mixBlock 106 = .ok (.goto (-82), 3) := by decide +kernel
theorem dX0_mixBlock_109 : decode cX0_mixBlock 109 = .ok (.aload_n 0, 1) := by decide +kernel
theorem dX0_mixBlock_110 : decode cX0_mixBlock 110 = .ok (.dup, 1) := by decide +kernel
theorem dX0_mixBlock_111 : decode cX0_mixBlock 111 = .ok (.getfield 21, 3) := by decide +kernel
theorem dX0_mixBlock_114 : decode cX0_mixBlock 114 = .ok (.iload_n 1, 1) := by decide +kernel
theorem dX0_mixBlock_115 : decode cX0_mixBlock 115 = .ok (.iadd, 1) := by decide +kernel
theorem dX0_mixBlock_116 : decode cX0_mixBlock 116 = .ok (.putfield 21, 3) := by decide +kernel
theorem dX0_mixBlock_119 : decode cX0_mixBlock 119 = .ok (.aload_n 0, 1) := by decide +kernel
theorem dX0_mixBlock_120 : decode cX0_mixBlock 120 = .ok (.dup, 1) := by decide +kernel
theorem dX0_mixBlock_121 : decode cX0_mixBlock 121 = .ok (.getfield 25, 3) := by decide +kernel
theorem dX0_mixBlock_124 : decode cX0_mixBlock 124 = .ok (.iload_n 2, 1) := by decide +kernel
theorem dX0_mixBlock_125 : decode cX0_mixBlock 125 = .ok (.iadd, 1) := by decide +kernel
theorem dX0_mixBlock_126 : decode cX0_mixBlock 126 = .ok (.putfield 25, 3) := by decide +kernel
theorem dX0_mixBlock_129 : decode cX0_mixBlock 129 = .ok (.aload_n 0, 1) := by decide +kernel
theorem dX0_mixBlock_130 : decode cX0_mixBlock 130 = .ok (.dup, 1) := by decide +kernel
theorem dX0_mixBlock_131 : decode cX0_mixBlock 131 = .ok (.getfield 29, 3) := by decide +kernel
theorem dX0_mixBlock_134 : decode cX0_mixBlock 134 = .ok (.iload_n 3, 1) := by decide +kernel
theorem dX0_mixBlock_135 : decode cX0_mixBlock 135 = .ok (.iadd, 1) := by decide +kernel
theorem dX0_mixBlock_136 : decode cX0_mixBlock 136 = .ok (.putfield 29, 3) := by decide +kernel
theorem dX0_mixBlock_139 : decode cX0_mixBlock 139 = .ok (.aload_n 0, 1) := by decide +kernel
theorem dX0_mixBlock_140 : decode cX0_mixBlock 140 = .ok (.dup, 1) := by decide +kernel
theorem dX0_mixBlock_141 : decode cX0_mixBlock 141 = .ok (.getfield 33, 3) := by decide +kernel
theorem dX0_mixBlock_144 : decode cX0_mixBlock 144 = .ok (.iload 4, 2) := by decide +kernel
theorem dX0_mixBlock_146 : decode cX0_mixBlock 146 = .ok (.iadd, 1) := by decide +kernel
theorem dX0_mixBlock_147 : decode cX0_mixBlock 147 = .ok (.putfield 33, 3) := by decide +kernel
theorem dX0_mixBlock_150 : decode cX0_mixBlock 150 = .ok (.return_, 1) := by decide +kernel
theorem dX0_choose_0 : decode cX0_choose 0 = .ok (.iload_n 0, 1) := by decide +kernel
theorem dX0_choose_1 : decode cX0_choose 1 = .ok (.tableswitch 53 0 2 #[27, 37, 47], 27) := by decide +kernel
theorem dX0_choose_28 : decode cX0_choose 28 = .ok (.iload_n 1, 1) := by decide +kernel
theorem dX0_choose_29 : decode cX0_choose 29 = .ok (.iload_n 2, 1) := by decide +kernel
theorem dX0_choose_30 : decode cX0_choose 30 = .ok (.iand, 1) := by decide +kernel
theorem dX0_choose_31 : decode cX0_choose 31 = .ok (.iload_n 1, 1) := by decide +kernel
theorem dX0_choose_32 : decode cX0_choose 32 = .ok (.iconst (-1), 1) := by decide +kernel
theorem dX0_choose_33 : decode cX0_choose 33 = .ok (.ixor, 1) := by decide +kernel
theorem dX0_choose_34 : decode cX0_choose 34 = .ok (.iload_n 3, 1) := by decide +kernel
theorem dX0_choose_35 : decode cX0_choose 35 = .ok (.iand, 1) := by decide +kernel
theorem dX0_choose_36 : decode cX0_choose 36 = .ok (.ior, 1) := by decide +kernel
theorem dX0_choose_37 : decode cX0_choose 37 = .ok (.ireturn, 1) := by decide +kernel
theorem dX0_choose_38 : decode cX0_choose 38 = .ok (.iload_n 3, 1) := by decide +kernel
theorem dX0_choose_39 : decode cX0_choose 39 = .ok (.iload_n 1, 1) := by decide +kernel
theorem dX0_choose_40 : decode cX0_choose 40 = .ok (.iand, 1) := by decide +kernel
theorem dX0_choose_41 : decode cX0_choose 41 = .ok (.iload_n 3, 1) := by decide +kernel
theorem dX0_choose_42 : decode cX0_choose 42 = .ok (.iconst (-1), 1) := by decide +kernel
theorem dX0_choose_43 : decode cX0_choose 43 = .ok (.ixor, 1) := by decide +kernel
theorem dX0_choose_44 : decode cX0_choose 44 = .ok (.iload_n 2, 1) := by decide +kernel
theorem dX0_choose_45 : decode cX0_choose 45 = .ok (.iand, 1) := by decide +kernel
theorem dX0_choose_46 : decode cX0_choose 46 = .ok (.ior, 1) := by decide +kernel
theorem dX0_choose_47 : decode cX0_choose 47 = .ok (.ireturn, 1) := by decide +kernel
theorem dX0_choose_48 : decode cX0_choose 48 = .ok (.iload_n 1, 1) := by decide +kernel
theorem dX0_choose_49 : decode cX0_choose 49 = .ok (.iload_n 2, 1) := by decide +kernel
theorem dX0_choose_50 : decode cX0_choose 50 = .ok (.ixor, 1) := by decide +kernel
theorem dX0_choose_51 : decode cX0_choose 51 = .ok (.iload_n 3, 1) := by decide +kernel
theorem dX0_choose_52 : decode cX0_choose 52 = .ok (.ixor, 1) := by decide +kernel
theorem dX0_choose_53 : decode cX0_choose 53 = .ok (.ireturn, 1) := by decide +kernel
theorem dX0_choose_54 : decode cX0_choose 54 = .ok (.iload_n 2, 1) := by decide +kernel
theorem dX0_choose_55 : decode cX0_choose 55 = .ok (.iload_n 1, 1) := by decide +kernel
theorem dX0_choose_56 : decode cX0_choose 56 = .ok (.iload_n 3, 1) := by decide +kernel
theorem dX0_choose_57 : decode cX0_choose 57 = .ok (.iconst (-1), 1) := by decide +kernel
theorem dX0_choose_58 : decode cX0_choose 58 = .ok (.ixor, 1) := by decide +kernel
theorem dX0_choose_59 : decode cX0_choose 59 = .ok (.ior, 1) := by decide +kernel
theorem dX0_choose_60 : decode cX0_choose 60 = .ok (.ixor, 1) := by decide +kernel
theorem dX0_choose_61 : decode cX0_choose 61 = .ok (.ireturn, 1) := by decide +kernel
theorem dX0_wordOf_0 : decode cX0_wordOf 0 = .ok (.iload_n 0, 1) := by decide +kernel
theorem dX0_wordOf_1 : decode cX0_wordOf 1 = .ok (.tableswitch 50 0 2 #[27, 32, 41], 27) := by decide +kernel
theorem dX0_wordOf_28 : decode cX0_wordOf 28 = .ok (.iload_n 1, 1) := by decide +kernel
theorem dX0_wordOf_29 : decode cX0_wordOf 29 = .ok (.bipush 15, 2) := by decide +kernel
theorem dX0_wordOf_31 : decode cX0_wordOf 31 = .ok (.iand, 1) := by decide +kernel
theorem dX0_wordOf_32 : decode cX0_wordOf 32 = .ok (.ireturn, 1) := by decide +kernel
theorem dX0_wordOf_33 : decode cX0_wordOf 33 = .ok (.iconst 5, 1) := by decide +kernel
theorem dX0_wordOf_34 : decode cX0_wordOf 34 = .ok (.iload_n 1, 1) := by decide +kernel
theorem dX0_wordOf_35 : decode cX0_wordOf 35 = .ok (.imul, 1) := by decide +kernel
theorem dX0_wordOf_36 : decode cX0_wordOf 36 = .ok (.iconst 1, 1) := by decide +kernel
theorem dX0_wordOf_37 : decode cX0_wordOf 37 = .ok (.iadd, 1) := by decide +kernel
theorem dX0_wordOf_38 : decode cX0_wordOf 38 = .ok (.bipush 15, 2) := by decide +kernel
theorem dX0_wordOf_40 : decode cX0_wordOf 40 = .ok (.iand, 1) := by decide +kernel
theorem dX0_wordOf_41 : decode cX0_wordOf 41 = .ok (.ireturn, 1) := by decide +kernel
theorem dX0_wordOf_42 : decode cX0_wordOf 42 = .ok (.iconst 3, 1) := by decide +kernel
theorem dX0_wordOf_43 : decode cX0_wordOf 43 = .ok (.iload_n 1, 1) := by decide +kernel
theorem dX0_wordOf_44 : decode cX0_wordOf 44 = .ok (.imul, 1) := by decide +kernel
theorem dX0_wordOf_45 : decode cX0_wordOf 45 = .ok (.iconst 5, 1) := by decide +kernel
theorem dX0_wordOf_46 : decode cX0_wordOf 46 = .ok (.iadd, 1) := by decide +kernel
theorem dX0_wordOf_47 : decode cX0_wordOf 47 = .ok (.bipush 15, 2) := by decide +kernel
theorem dX0_wordOf_49 : decode cX0_wordOf 49 = .ok (.iand, 1) := by decide +kernel
theorem dX0_wordOf_50 : decode cX0_wordOf 50 = .ok (.ireturn, 1) := by decide +kernel
theorem dX0_wordOf_51 : decode cX0_wordOf 51 = .ok (.bipush 7, 2) := by decide +kernel
theorem dX0_wordOf_53 : decode cX0_wordOf 53 = .ok (.iload_n 1, 1) := by decide +kernel
theorem dX0_wordOf_54 : decode cX0_wordOf 54 = .ok (.imul, 1) := by decide +kernel
theorem dX0_wordOf_55 : decode cX0_wordOf 55 = .ok (.bipush 15, 2) := by decide +kernel
theorem dX0_wordOf_57 : decode cX0_wordOf 57 = .ok (.iand, 1) := by decide +kernel
theorem dX0_wordOf_58 : decode cX0_wordOf 58 = .ok (.ireturn, 1) := by decide +kernel
theorem dX0_turnLeft_0 : decode cX0_turnLeft 0 = .ok (.iload_n 0, 1) := by decide +kernel
theorem dX0_turnLeft_1 : decode cX0_turnLeft 1 = .ok (.iload_n 1, 1) := by decide +kernel
theorem dX0_turnLeft_2 : decode cX0_turnLeft 2 = .ok (.ishl, 1) := by decide +kernel
theorem dX0_turnLeft_3 : decode cX0_turnLeft 3 = .ok (.iload_n 0, 1) := by decide +kernel
theorem dX0_turnLeft_4 : decode cX0_turnLeft 4 = .ok (.bipush 32, 2) := by decide +kernel
theorem dX0_turnLeft_6 : decode cX0_turnLeft 6 = .ok (.iload_n 1, 1) := by decide +kernel
theorem dX0_turnLeft_7 : decode cX0_turnLeft 7 = .ok (.isub, 1) := by decide +kernel
theorem dX0_turnLeft_8 : decode cX0_turnLeft 8 = .ok (.iushr, 1) := by decide +kernel
theorem dX0_turnLeft_9 : decode cX0_turnLeft 9 = .ok (.ior, 1) := by decide +kernel
theorem dX0_turnLeft_10 : decode cX0_turnLeft 10 = .ok (.ireturn, 1) := by decide +kernel
set_option maxRecDepth 20000 in
theorem ggX1_init_X0_init : GoodIn wsX1_init wsX0_init := goodIn_r _ [16, 17, 2, 3, 12, 18, 19, 20, 21, 10, 22, 23, 24, 25, 26, 27, 28, 29, 30, 31, 38, 39, 40, 41, 42, 43] (by decide +kernel) (by decide +kernel)
set_option maxRecDepth 20000 in
theorem gX1_init_X0_init_n22 : GoodIn wsX1_init (wsX0_init) := ggX1_init_X0_init
theorem dX1_init_0 : decode cX1_init 0 = .ok (.aload_n 0, 1) := by decide +kernel
theorem dX1_init_1 : decode cX1_init 1 = .ok (.invokespecial 1, 3) := by decide +kernel
theorem dX1_init_4 : decode cX1_init 4 = .ok (.aload_n 0, 1) := by decide +kernel
theorem dX1_init_5 : decode cX1_init 5 = .ok (.sipush 2000, 3) := by decide +kernel
theorem dX1_init_8 : decode cX1_init 8 = .ok (.newarray .byte, 2) := by decide +kernel
theorem dX1_init_10 : decode cX1_init 10 = .ok (.putfield 9, 3) := by decide +kernel
theorem dX1_init_13 : decode cX1_init 13 = .ok (.aload_n 0, 1) := by decide +kernel
theorem dX1_init_14 : decode cX1_init 14 = .ok (.iconst 0, 1) := by decide +kernel
theorem dX1_init_15 : decode cX1_init 15 = .ok (.putfield 13, 3) := by decide +kernel
theorem dX1_init_18 : decode cX1_init 18 = .ok (.aload_n 0, 1) := by decide +kernel
theorem dX1_init_19 : decode cX1_init 19 = .ok (.bipush 16, 2) := by decide +kernel
theorem dX1_init_21 : decode cX1_init 21 = .ok (.newarray .byte, 2) := by decide +kernel
theorem dX1_init_23 : decode cX1_init 23 = .ok (.putfield 17, 3) := by decide +kernel
theorem dX1_init_26 : decode cX1_init 26 = .ok (.aload_n 0, 1) := by decide +kernel
theorem dX1_init_27 : decode cX1_init 27 = .ok (.new 20, 3) := by decide +kernel
theorem dX1_init_30 : decode cX1_init 30 = .ok (.dup, 1) := by decide +kernel
theorem dX1_init_31 : decode cX1_init 31 = .ok (.invokespecial 22, 3) := by decide +kernel
theorem dX1_init_34 : decode cX1_init 34 = .ok (.putfield 23, 3) := by decide +kernel
theorem dX1_init_37 : decode cX1_init 37 = .ok (.aload_n 0, 1) := by decide +kernel
theorem dX1_init_38 : decode cX1_init 38 = .ok (.iconst 4, 1) := by decide +kernel
theorem dX1_init_39 : decode cX1_init 39 = .ok (.newarray .int, 2) := by decide +kernel
theorem dX1_init_41 : decode cX1_init 41 = .ok (.putfield 27, 3) := by decide +kernel
theorem dX1_init_44 : decode cX1_init 44 = .ok (.aload_n 0, 1) := by decide +kernel
theorem dX1_init_45 : decode cX1_init 45 = .ok (.iconst 0, 1) := by decide +kernel
theorem dX1_init_46 : decode cX1_init 46 = .ok (.putfield 31, 3) := by decide +kernel
theorem dX1_init_49 : decode cX1_init 49 = .ok (.return_, 1) := by decide +kernel
set_option maxRecDepth 20000 in
theorem ggX1_feed_X1_writeNumber : GoodIn wsX1_feed wsX1_writeNumber := goodIn_r _ [6, 7, 8, 9, 10, 11, 12, 13] (by decide +kernel) (by decide +kernel)
set_option maxRecDepth 20000 in
theorem gX1_feed_X1_writeNumber : GoodIn wsX1_feed (wsV RX1 35 RX1 yX1_writeNumber wsX1_writeNumber) := goodIn_app (goodIn_of _ (by decide +kernel)) ggX1_feed_X1_writeNumber
theorem dX1_feed_0 : decode cX1_feed 0 = .ok (.aload_n 0, 1) := by decide +kernel
theorem dX1_feed_1 : decode cX1_feed 1 = .ok (.getfield 13, 3) := by decide +kernel
theorem dX1_feed_4 : decode cX1_feed 4 = .ok (.sipush 1980, 3) := by decide +kernel
theorem dX1_feed_7 : decode cX1_feed 7 = .ok (.if_icmp .le 5, 3) := by decide +kernel
theorem dX1_feed_10 : decode cX1_feed 10 = .ok (.iconst 0, 1) := by decide +kernel
theorem dX1_feed_11 : decode cX1_feed 11 = .ok (.ireturn, 1) := by decide +kernel
theorem dX1_feed_12 : decode cX1_feed 12 = .ok (.aload_n 0, 1) := by decide +kernel
theorem dX1_feed_13 : decode cX1_feed 13 = .ok (.aload_n 0, 1) := by decide +kernel
theorem dX1_feed_14 : decode cX1_feed 14 = .ok (.getfield 13, 3) := by decide +kernel
theorem dX1_feed_17 : decode cX1_feed 17 = .ok (.iload_n 1, 1) := by decide +kernel
theorem dX1_feed_18 : decode cX1_feed 18 = .ok (.invokevirtual 35, 3) := by decide +kernel
theorem dX1_feed_21 : decode cX1_feed 21 = .ok (.aload_n 0, 1) := by decide +kernel
theorem dX1_feed_22 : decode cX1_feed 22 = .ok (.aload_n 0, 1) := by decide +kernel
theorem dX1_feed_23 : decode cX1_feed 23 = .ok (.getfield 13, 3) := by decide +kernel
theorem dX1_feed_26 : decode cX1_feed 26 = .ok (.iconst 4, 1) := by decide +kernel
theorem dX1_feed_27 : decode cX1_feed 27 = .ok (.iadd, 1) := by decide +kernel
theorem dX1_feed_28 : decode cX1_feed 28 = .ok (.iload_n 2, 1) := by decide +kernel
theorem dX1_feed_29 : decode cX1_feed 29 = .ok (.invokevirtual 35, 3) := by decide +kernel
theorem dX1_feed_32 : decode cX1_feed 32 = .ok (.aload_n 0, 1) := by decide +kernel
theorem dX1_feed_33 : decode cX1_feed 33 = .ok (.aload_n 0, 1) := by decide +kernel
theorem dX1_feed_34 : decode cX1_feed 34 = .ok (.getfield 13, 3) := by decide +kernel
theorem dX1_feed_37 : decode cX1_feed 37 = .ok (.bipush 8, 2) := by decide +kernel
theorem dX1_feed_39 : decode cX1_feed 39 = .ok (.iadd, 1) := by decide +kernel
theorem dX1_feed_40 : decode cX1_feed 40 = .ok (.iload_n 3, 1) := by decide +kernel
theorem dX1_feed_41 : decode cX1_feed 41 = .ok (.invokevirtual 35, 3) := by decide +kernel
theorem dX1_feed_44 : decode cX1_feed 44 = .ok (.aload_n 0, 1) := by decide +kernel
theorem dX1_feed_45 : decode cX1_feed 45 = .ok (.aload_n 0, 1) := by decide +kernel
theorem dX1_feed_46 : decode cX1_feed 46 = .ok (.getfield 13, 3) := by decide +kernel
theorem dX1_feed_49 : decode cX1_feed 49 = .ok (.bipush 12, 2) := by decide +kernel
theorem dX1_feed_51 : decode cX1_feed 51 = .ok (.iadd, 1) := by decide +kernel
theorem dX1_feed_52 : decode cX1_feed 52 = .ok (.iload 4, 2) := by decide +kernel
theorem dX1_feed_54 : decode cX1_feed 54 = .ok (.invokevirtual 35, 3) := by decide +kernel
theorem dX1_feed_57 : decode cX1_feed 57 = .ok (.aload_n 0, 1) := by decide +kernel
theorem dX1_feed_58 : decode cX1_feed 58 = .ok (.aload_n 0, 1) := by decide +kernel
theorem dX1_feed_59 : decode cX1_feed 59 = .ok (.getfield 13, 3) := by decide +kernel
theorem dX1_feed_62 : decode cX1_feed 62 = .ok (.bipush 16, 2) := by decide +kernel
theorem dX1_feed_64 : decode cX1_feed 64 = .ok (.iadd, 1) := by decide +kernel
theorem dX1_feed_65 : decode cX1_feed 65 = .ok (.iload 5, 2) := by decide +kernel
theorem dX1_feed_67 : decode cX1_feed 67 = .ok (.invokevirtual 35, 3) := by decide +kernel
theorem dX1_feed_70 : decode cX1_feed 70 = .ok (.aload_n 0, 1) := by decide +kernel
theorem dX1_feed_71 : decode cX1_feed 71 = .ok (.dup, 1) := by decide +kernel
theorem dX1_feed_72 : decode cX1_feed 72 = .ok (.getfield 13, 3) := by decide +kernel
theorem dX1_feed_75 : decode cX1_feed 75 = .ok (.bipush 20, 2) := by decide +kernel
theorem dX1_feed_77 : decode cX1_feed 77 = .ok (.iadd, 1) := by decide +kernel
theorem dX1_feed_78 : decode cX1_feed 78 = .ok (.putfield 13, 3) := by decide +kernel
theorem dX1_feed_81 : decode cX1_feed 81 = .ok (.iconst 1, 1) := by decide +kernel
theorem dX1_feed_82 : decode cX1_feed 82 = .ok (.ireturn, 1) := by decide +kernel
theorem dX1_end_0 : decode cX1_end 0 = .ok (.iload_n 1, 1) := by decide +kernel
theorem dX1_end_1 : decode cX1_end 1 = .ok (.ifCond .lt 11, 3) := by decide +kernel
theorem dX1_end_4 : decode cX1_end 4 = .ok (.iload_n 1, 1) := by decide +kernel
theorem dX1_end_5 : decode cX1_end 5 = .ok (.aload_n 0, 1) := by decide +kernel
theorem dX1_end_6 : decode cX1_end 6 = .ok (.getfield 13, 3) := by decide +kernel
theorem dX1_end_9 : decode cX1_end 9 = .ok (.if_icmp .le 5, 3) := by decide +kernel
theorem dX1_end_12 : decode cX1_end 12 = .ok (.iconst 0, 1) := by decide +kernel
theorem dX1_end_13 : decode cX1_end 13 = .ok (.ireturn, 1) := by decide +kernel
theorem dX1_end_14 : decode cX1_end 14 = .ok (.aload_n 0, 1) := by decide +kernel
theorem dX1_end_15 : decode cX1_end 15 = .ok (.iload_n 1, 1) := by decide +kernel
theorem dX1_end_16 : decode cX1_end 16 = .ok (.putfield 13, 3) := by decide +kernel
theorem dX1_end_19 : decode cX1_end 19 = .ok (.iconst 1, 1) := by decide +kernel
theorem dX1_end_20 : decode cX1_end 20 = .ok (.ireturn, 1) := by decide +kernel
set_option maxRecDepth 20000 in
theorem ggX1_add_X0_take : GoodIn wsX1_add wsX0_take := goodIn_r _ [7, 8, 9, 10, 11, 12, 5, 13, 14, 15, 16, 17, 18, 19, 20, 21, 22, 23, 24, 25, 26, 27, 28, 35, 36, 37, 38, 39, 40] (by decide +kernel) (by decide +kernel)
set_option maxRecDepth 20000 in
theorem gX1_add_X0_take_n39 : GoodIn wsX1_add (wsX0_take) := ggX1_add_X0_take
theorem dX1_add_0 : decode cX1_add 0 = .ok (.iconst 0, 1) := by decide +kernel
theorem dX1_add_1 : decode cX1_add 1 = .ok (.istore_n 1, 1) := by decide +kernel
theorem dX1_add_2 : decode cX1_add 2 = .ok (.iload_n 1, 1) := by decide +kernel
theorem dX1_add_3 : decode cX1_add 3 = .ok (.aload_n 0, 1) := by decide +kernel
theorem dX1_add_4 : decode cX1_add 4 = .ok (.getfield 13, 3) := by decide +kernel
theorem dX1_add_7 : decode cX1_add 7 = .ok (.if_icmp .ge 22, 3) := by decide +kernel
theorem dX1_add_10 : decode cX1_add 10 = .ok (.aload_n 0, 1) := by decide +kernel
theorem dX1_add_11 : decode cX1_add 11 = .ok (.getfield 23, 3) := by decide +kernel
theorem dX1_add_14 : decode cX1_add 14 = .ok (.aload_n 0, 1) := by decide +kernel
theorem dX1_add_15 : decode cX1_add 15 = .ok (.getfield 9, 3) := by decide +kernel
theorem dX1_add_18 : decode cX1_add 18 = .ok (.iload_n 1, 1) := by decide +kernel
theorem dX1_add_19 : decode cX1_add 19 = .ok (.baload, 1) := by decide +kernel
theorem dX1_add_20 : decode cX1_add 20 = .ok (.invokevirtual 39, 3) := by decide +kernel
theorem dX1_add_23 : decode cX1_add 23 = .ok (.iinc 1 1, 3) := by decide +kernel
theorem dX1_add_26 : decode cX1_add 26 = .ok (.goto (-24), 3) := by decide +kernel
theorem dX1_add_29 : decode cX1_add 29 = .ok (.aload_n 0, 1) := by decide +kernel
theorem dX1_add_30 : decode cX1_add 30 = .ok (.iconst 0, 1) := by decide +kernel
theorem dX1_add_31 : decode cX1_add 31 = .ok (.putfield 13, 3) := by decide +kernel
theorem dX1_add_34 : decode cX1_add 34 = .ok (.aload_n 0, 1) := by decide +kernel
theorem dX1_add_35 : decode cX1_add 35 = .ok (.getfield 23, 3) := by decide +kernel
theorem dX1_add_38 : decode cX1_add 38 = .ok (.getfield 43, 3) := by decide +kernel
theorem dX1_add_41 : decode cX1_add 41 = .ok (.ireturn, 1) := by decide +kernel
set_option maxRecDepth 20000 in
theorem ggX1_fill_X0_take : GoodIn wsX1_fill wsX0_take := goodIn_r _ [5, 6, 7, 8, 9, 10, 3, 11, 12, 13, 14, 15, 16, 17, 18, 19, 20, 21, 22, 23, 24, 25, 26, 33, 34, 35, 36, 37, 38] (by decide +kernel) (by decide +kernel)
set_option maxRecDepth 20000 in
theorem gX1_fill_X0_take_n39 : GoodIn wsX1_fill (wsX0_take) := ggX1_fill_X0_take
theorem dX1_fill_0 : decode cX1_fill 0 = .ok (.iload_n 1, 1) := by decide +kernel
theorem dX1_fill_1 : decode cX1_fill 1 = .ok (.ifCond .lt 10, 3) := by decide +kernel
theorem dX1_fill_4 : decode cX1_fill 4 = .ok (.iload_n 1, 1) := by decide +kernel
theorem dX1_fill_5 : decode cX1_fill 5 = .ok (.sipush 4000, 3) := by decide +kernel
theorem dX1_fill_8 : decode cX1_fill 8 = .ok (.if_icmp .le 5, 3) := by decide +kernel
theorem dX1_fill_11 : decode cX1_fill 11 = .ok (.iconst (-1), 1) := by decide +kernel
theorem dX1_fill_12 : decode cX1_fill 12 = .ok (.ireturn, 1) := by decide +kernel
theorem dX1_fill_13 : decode cX1_fill 13 = .ok (.iconst 0, 1) := by decide +kernel
theorem dX1_fill_14 : decode cX1_fill 14 = .ok (.istore_n 3, 1) := by decide +kernel
theorem dX1_fill_15 : decode cX1_fill 15 = .ok (.iload_n 3, 1) := by decide +kernel
theorem dX1_fill_16 : decode cX1_fill 16 = .ok (.iload_n 1, 1) := by decide +kernel
theorem dX1_fill_17 : decode cX1_fill 17 = .ok (.if_icmp .ge 21, 3) := by decide +kernel
theorem dX1_fill_20 : decode cX1_fill 20 = .ok (.aload_n 0, 1) := by decide +kernel
theorem dX1_fill_21 : decode cX1_fill 21 = .ok (.getfield 23, 3) := by decide +kernel
theorem dX1_fill_24 : decode cX1_fill 24 = .ok (.iload_n 2, 1) := by decide +kernel
theorem dX1_fill_25 : decode cX1_fill 25 = .ok (.iconst 3, 1) := by decide +kernel
theorem dX1_fill_26 : decode cX1_fill 26 = .ok (.iload_n 3, 1) := by decide +kernel
theorem dX1_fill_27 : decode cX1_fill 27 = .ok (.imul, 1) := by decide +kernel
theorem dX1_fill_28 : decode cX1_fill 28 = .ok (.iadd, 1) := by decide +kernel
theorem dX1_fill_29 : decode cX1_fill 29 = .ok (.invokevirtual 39, 3) := by decide +kernel
theorem dX1_fill_32 : decode cX1_fill 32 = .ok (.iinc 3 1, 3) := by decide +kernel
theorem dX1_fill_35 : decode cX1_fill 35 = .ok (.goto (-20), 3) := by decide +kernel
theorem dX1_fill_38 : decode cX1_fill 38 = .ok (.aload_n 0, 1) := by decide +kernel
theorem dX1_fill_39 : decode cX1_fill 39 = .ok (.getfield 23, 3) := by decide +kernel
theorem dX1_fill_42 : decode cX1_fill 42 = .ok (.getfield 43, 3) := by decide +kernel
theorem dX1_fill_45 : decode cX1_fill 45 = .ok (.ireturn, 1) := by decide +kernel
theorem dX1_key_0 : decode cX1_key 0 = .ok (.aload_n 0, 1) := by decide +kernel
theorem dX1_key_1 : decode cX1_key 1 = .ok (.getfield 13, 3) := by decide +kernel
theorem dX1_key_4 : decode cX1_key 4 = .ok (.istore_n 1, 1) := by decide +kernel
theorem dX1_key_5 : decode cX1_key 5 = .ok (.aload_n 0, 1) := by decide +kernel
theorem dX1_key_6 : decode cX1_key 6 = .ok (.iconst 0, 1) := by decide +kernel
theorem dX1_key_7 : decode cX1_key 7 = .ok (.putfield 13, 3) := by decide +kernel
theorem dX1_key_10 : decode cX1_key 10 = .ok (.iload_n 1, 1) := by decide +kernel
theorem dX1_key_11 : decode cX1_key 11 = .ok (.bipush 16, 2) := by decide +kernel
theorem dX1_key_13 : decode cX1_key 13 = .ok (.if_icmp .le 5, 3) := by decide +kernel
theorem dX1_key_16 : decode cX1_key 16 = .ok (.iconst (-1), 1) := by decide +kernel
theorem dX1_key_17 : decode cX1_key 17 = .ok (.ireturn, 1) := by decide +kernel
theorem dX1_key_18 : decode cX1_key 18 = .ok (.iconst 0, 1) := by decide +kernel
theorem dX1_key_19 : decode cX1_key 19 = .ok (.istore_n 2, 1) := by decide +kernel
theorem dX1_key_20 : decode cX1_key 20 = .ok (.iload_n 2, 1) := by decide +kernel
theorem dX1_key_21 : decode cX1_key 21 = .ok (.bipush 16, 2) := by decide +kernel
theorem dX1_key_23 : decode cX1_key 23 = .ok (.if_icmp .ge 30, 3) := by decide +kernel
theorem dX1_key_26 : decode cX1_key 26 = .ok (.aload_n 0, 1) := by decide +kernel
theorem dX1_key_27 : decode cX1_key 27 = .ok (.getfield 17, 3) := by decide +kernel
theorem dX1_key_30 : decode cX1_key 30 = .ok (.iload_n 2, 1) := by decide +kernel
theorem dX1_key_31 : decode cX1_key 31 = .ok (.iload_n 2, 1) := by decide +kernel
theorem dX1_key_32 : decode cX1_key 32 = .ok (.iload_n 1, 1) := by decide +kernel
theorem dX1_key_33 : decode cX1_key 33 = .ok (.if_icmp .ge 12, 3) := by decide +kernel
theorem dX1_key_36 : decode cX1_key 36 = .ok (.aload_n 0, 1) := by decide +kernel
theorem dX1_key_37 : decode cX1_key 37 = .ok (.getfield 9, 3) := by decide +kernel
theorem dX1_key_40 : decode cX1_key 40 = .ok (.iload_n 2, 1) := by decide +kernel
theorem dX1_key_41 : decode cX1_key 41 = .ok (.baload, 1) := by decide +kernel
theorem dX1_key_42 : decode cX1_key 42 = .ok (.goto 4, 3) := by decide +kernel
theorem dX1_key_45 : decode cX1_key 45 = .ok (.iconst 0, 1) := by decide +kernel
theorem dX1_key_46 : decode cX1_key 46 = .ok (.bastore, 1) := by decide +kernel
theorem dX1_key_47 : decode cX1_key 47 = .ok (.iinc 2 1, 3) := by decide +kernel
theorem dX1_key_50 : decode cX1_key 50 = .ok (.goto (-30), 3) := by decide +kernel
theorem dX1_key_53 : decode cX1_key 53 = .ok (.iload_n 1, 1) := by decide +kernel
theorem dX1_key_54 : decode cX1_key 54 = .ok (.ireturn, 1) := by decide +kernel
set_option maxRecDepth 20000 in
theorem ggX1_sum_X0_take : GoodIn wsX1_sum wsX0_take := goodIn_r _ [8, 9, 10, 11, 12, 13, 6, 14, 15, 16, 17, 18, 19, 20, 21, 22, 23, 24, 25, 26, 27, 28, 29, 48, 49, 50, 51, 52, 53] (by decide +kernel) (by decide +kernel)
set_option maxRecDepth 20000 in
theorem gX1_sum_X0_take_n39 : GoodIn wsX1_sum (wsX0_take) := ggX1_sum_X0_take
set_option maxRecDepth 20000 in
theorem ggX1_sum_X0_close : GoodIn wsX1_sum wsX0_close := goodIn_r _ [32, 9, 33, 34, 5, 7, 6, 8, 10, 11, 12, 13, 14, 15, 16, 17, 18, 19, 20, 21, 22, 23, 24, 25, 26, 27, 28, 29, 48, 49, 50, 51, 52, 53] (by decide +kernel) (by decide +kernel)
set_option maxRecDepth 20000 in
theorem gX1_sum_X0_close_n46 : GoodIn wsX1_sum (wsX0_close) := ggX1_sum_X0_close
set_option maxRecDepth 20000 in
theorem ggX1_sum_X0_restart : GoodIn wsX1_sum wsX0_restart := goodIn_r _ [37, 9, 38, 15, 39, 16, 40, 17, 41, 18, 48, 49, 50, 51, 52, 53] (by decide +kernel) (by decide +kernel)
set_option maxRecDepth 20000 in
theorem gX1_sum_X0_restart_n61 : GoodIn wsX1_sum (wsX0_restart) := ggX1_sum_X0_restart
theorem dX1_sum_0 : decode cX1_sum 0 = .ok (.aload_n 0, 1) := by decide +kernel
theorem dX1_sum_1 : decode cX1_sum 1 = .ok (.getfield 23, 3) := by decide +kernel
theorem dX1_sum_4 : decode cX1_sum 4 = .ok (.getfield 43, 3) := by decide +kernel
theorem dX1_sum_7 : decode cX1_sum 7 = .ok (.istore_n 2, 1) := by decide +kernel
theorem dX1_sum_8 : decode cX1_sum 8 = .ok (.iload_n 1, 1) := by decide +kernel
theorem dX1_sum_9 : decode cX1_sum 9 = .ok (.ifCond .eq 30, 3) := by decide +kernel
theorem dX1_sum_12 : decode cX1_sum 12 = .ok (.iconst 0, 1) := by decide +kernel
theorem dX1_sum_13 : decode cX1_sum 13 = .ok (.istore_n 3, 1) := by decide +kernel
theorem dX1_sum_14 : decode cX1_sum 14 = .ok (.iload_n 3, 1) := by decide +kernel
theorem dX1_sum_15 : decode cX1_sum 15 = .ok (.bipush 16, 2) := by decide +kernel
theorem dX1_sum_17 : decode cX1_sum 17 = .ok (.if_icmp .ge 22, 3) := by decide +kernel
theorem dX1_sum_20 : decode cX1_sum 20 = .ok (.aload_n 0, 1) := by decide +kernel
theorem dX1_sum_21 : decode cX1_sum 21 = .ok (.getfield 23, 3) := by decide +kernel
theorem dX1_sum_24 : decode cX1_sum 24 = .ok (.aload_n 0, 1) := by decide +kernel
theorem dX1_sum_25 : decode cX1_sum 25 = .ok (.getfield 17, 3) := by decide +kernel
theorem dX1_sum_28 : decode cX1_sum 28 = .ok (.iload_n 3, 1) := by decide +kernel
theorem dX1_sum_29 : decode cX1_sum 29 = .ok (.baload, 1) := by decide +kernel
theorem dX1_sum_30 : decode cX1_sum 30 = .ok (.invokevirtual 39, 3) := by decide +kernel
theorem dX1_sum_33 : decode cX1_sum 33 = .ok (.iinc 3 1, 3) := by decide +kernel
theorem dX1_sum_36 : decode cX1_sum 36 = .ok (.goto (-22), 3) := by decide +kernel
theorem dX1_sum_39 : decode cX1_sum 39 = .ok (.aload_n 0, 1) := by decide +kernel
theorem dX1_sum_40 : decode cX1_sum 40 = .ok (.getfield 23, 3) := by decide +kernel
theorem dX1_sum_43 : decode cX1_sum 43 = .ok (.invokevirtual 46, 3) := by decide +kernel
theorem dX1_sum_46 : decode cX1_sum 46 = .ok (.aload_n 0, 1) := by decide +kernel
theorem dX1_sum_47 : decode cX1_sum 47 = .ok (.getfield 27, 3) := by decide +kernel
theorem dX1_sum_50 : decode cX1_sum 50 = .ok (.iconst 0, 1) := by decide +kernel
theorem dX1_sum_51 : decode cX1_sum 51 = .ok (.aload_n 0, 1) := by decide +kernel
theorem dX1_sum_52 : decode cX1_sum 52 = .ok (.getfield 23, 3) := by decide +kernel
theorem dX1_sum_55 : decode cX1_sum 55 = .ok (.getfield 49, 3) := by decide +kernel
theorem dX1_sum_58 : decode cX1_sum 58 = .ok (.iastore, 1) := by decide +kernel
theorem dX1_sum_59 : decode cX1_sum 59 = .ok (.aload_n 0, 1) := by decide +kernel
theorem dX1_sum_60 : decode cX1_sum 60 = .ok (.getfield 27, 3) := by decide +kernel
theorem dX1_sum_63 : decode cX1_sum 63 = .ok (.iconst 1, 1) := by decide +kernel
theorem dX1_sum_64 : decode cX1_sum 64 = .ok (.aload_n 0, 1) := by decide +kernel
theorem dX1_sum_65 : decode cX1_sum 65 = .ok (.getfield 23, 3) := by decide +kernel
theorem dX1_sum_68 : decode cX1_sum 68 = .ok (.getfield 52, 3) := by decide +kernel
theorem dX1_sum_71 : decode cX1_sum 71 = .ok (.iastore, 1) := by decide +kernel
theorem dX1_sum_72 : decode cX1_sum 72 = .ok (.aload_n 0, 1) := by decide +kernel
theorem dX1_sum_73 : decode cX1_sum 73 = .ok (.getfield 27, 3) := by decide +kernel
theorem dX1_sum_76 : decode cX1_sum 76 = .ok (.iconst 2, 1) := by decide +kernel
theorem dX1_sum_77 : decode cX1_sum 77 = .ok (.aload_n 0, 1) := by decide +kernel
theorem dX1_sum_78 : decode cX1_sum 78 = .ok (.getfield 23, 3) := by decide +kernel
theorem dX1_sum_81 : decode cX1_sum 81 = .ok (.getfield 55, 3) := by decide +kernel
theorem dX1_sum_84 : decode cX1_sum 84 = .ok (.iastore, 1) := by decide +kernel
theorem dX1_sum_85 : decode cX1_sum 85 = .ok (.aload_n 0, 1) := by decide +kernel
theorem dX1_sum_86 : decode cX1_sum 86 = .ok (.getfield 27, 3) := by decide +kernel
theorem dX1_sum_89 : decode cX1_sum 89 = .ok (.iconst 3, 1) := by decide +kernel
theorem dX1_sum_90 : decode cX1_sum 90 = .ok (.aload_n 0, 1) := by decide +kernel
theorem dX1_sum_91 : decode cX1_sum 91 = .ok (.getfield 23, 3) := by decide +kernel
theorem dX1_sum_94 : decode cX1_sum 94 = .ok (.getfield 58, 3) := by decide +kernel
theorem dX1_sum_97 : decode cX1_sum 97 = .ok (.iastore, 1) := by decide +kernel
theorem dX1_sum_98 : decode cX1_sum 98 = .ok (.aload_n 0, 1) := by decide +kernel
theorem dX1_sum_99 : decode cX1_sum 99 = .ok (.iconst 1, 1) := by decide +kernel
theorem dX1_sum_100 : decode cX1_sum 100 = .ok (.putfield 31, 3) := by decide +kernel
theorem dX1_sum_103 : decode cX1_sum 103 = .ok (.aload_n 0, 1) := by decide +kernel
theorem dX1_sum_104 : decode cX1_sum 104 = .ok (.getfield 23, 3) := by decide +kernel
theorem dX1_sum_107 : decode cX1_sum 107 = .ok (.invokevirtual 61, 3) := by decide +kernel
theorem dX1_sum_110 : decode cX1_sum 110 = .ok (.iload_n 2, 1) := by decide +kernel
theorem dX1_sum_111 : decode cX1_sum 111 = .ok (.ireturn, 1) := by decide +kernel
theorem dX1_sumAt_0 : decode cX1_sumAt 0 = .ok (.aload_n 0, 1) := by decide +kernel
theorem dX1_sumAt_1 : decode cX1_sumAt 1 = .ok (.getfield 31, 3) := by decide +kernel
theorem dX1_sumAt_4 : decode cX1_sumAt 4 = .ok (.ifCond .eq 13, 3) := by decide +kernel
theorem dX1_sumAt_7 : decode cX1_sumAt 7 = .ok (.iload_n 1, 1) := by decide +kernel
theorem dX1_sumAt_8 : decode cX1_sumAt 8 = .ok (.ifCond .lt 9, 3) := by decide +kernel
theorem dX1_sumAt_11 : decode cX1_sumAt 11 = .ok (.iload_n 1, 1) := by decide +kernel
theorem dX1_sumAt_12 : decode cX1_sumAt 12 = .ok (.bipush 16, 2) := by decide +kernel
theorem dX1_sumAt_14 : decode cX1_sumAt 14 = .ok (.if_icmp .lt 5, 3) := by decide +kernel
theorem dX1_sumAt_17 : decode cX1_sumAt 17 = .ok (.iconst (-1), 1) := by decide +kernel
theorem dX1_sumAt_18 : decode cX1_sumAt 18 = .ok (.ireturn, 1) := by decide +kernel
theorem dX1_sumAt_19 : decode cX1_sumAt 19 = .ok (.aload_n 0, 1) := by decide +kernel
theorem dX1_sumAt_20 : decode cX1_sumAt 20 = .ok (.getfield 27, 3) := by decide +kernel
theorem dX1_sumAt_23 : decode cX1_sumAt 23 = .ok (.iload_n 1, 1) := by decide +kernel
theorem dX1_sumAt_24 : decode cX1_sumAt 24 = .ok (.iconst 2, 1) := by decide +kernel
theorem dX1_sumAt_25 : decode cX1_sumAt 25 = .ok (.ishr, 1) := by decide +kernel
theorem dX1_sumAt_26 : decode cX1_sumAt 26 = .ok (.iaload, 1) := by decide +kernel
theorem dX1_sumAt_27 : decode cX1_sumAt 27 = .ok (.bipush 8, 2) := by decide +kernel
theorem dX1_sumAt_29 : decode cX1_sumAt 29 = .ok (.iload_n 1, 1) := by decide +kernel
theorem dX1_sumAt_30 : decode cX1_sumAt 30 = .ok (.iconst 3, 1) := by decide +kernel
theorem dX1_sumAt_31 : decode cX1_sumAt 31 = .ok (.iand, 1) := by decide +kernel
theorem dX1_sumAt_32 : decode cX1_sumAt 32 = .ok (.imul, 1) := by decide +kernel
theorem dX1_sumAt_33 : decode cX1_sumAt 33 = .ok (.iushr, 1) := by decide +kernel
theorem dX1_sumAt_34 : decode cX1_sumAt 34 = .ok (.sipush 255, 3) := by decide +kernel
theorem dX1_sumAt_37 : decode cX1_sumAt 37 = .ok (.iand, 1) := by decide +kernel
theorem dX1_sumAt_38 : decode cX1_sumAt 38 = .ok (.ireturn, 1) := by decide +kernel
theorem dX1_writeNumber_0 : decode cX1_writeNumber 0 = .ok (.aload_n 0, 1) := by decide +kernel
theorem dX1_writeNumber_1 : decode cX1_writeNumber 1 = .ok (.getfield 9, 3) := by decide +kernel
theorem dX1_writeNumber_4 : decode cX1_writeNumber 4 = .ok (.iload_n 1, 1) := by decide +kernel
theorem dX1_writeNumber_5 : decode cX1_writeNumber 5 = .ok (.iload_n 2, 1) := by decide +kernel
theorem dX1_writeNumber_6 : decode cX1_writeNumber 6 = .ok (.bipush 24, 2) := by decide +kernel
theorem dX1_writeNumber_8 : decode cX1_writeNumber 8 = .ok (.iushr, 1) := by decide +kernel
theorem dX1_writeNumber_9 : decode cX1_writeNumber 9 = .ok (.i2b, 1) := by decide +kernel
theorem dX1_writeNumber_10 : decode cX1_writeNumber 10 = .ok (.bastore, 1) := by decide +kernel
theorem dX1_writeNumber_11 : decode cX1_writeNumber 11 = .ok (.aload_n 0, 1) := by decide +kernel
theorem dX1_writeNumber_12 : decode cX1_writeNumber 12 = .ok (.getfield 9, 3) := by decide +kernel
theorem dX1_writeNumber_15 : decode cX1_writeNumber 15 = .ok (.iload_n 1, 1) := by decide +kernel
theorem dX1_writeNumber_16 : decode cX1_writeNumber 16 = .ok (.iconst 1, 1) := by decide +kernel
theorem dX1_writeNumber_17 : decode cX1_writeNumber 17 = .ok (.iadd, 1) := by decide +kernel
theorem dX1_writeNumber_18 : decode cX1_writeNumber 18 = .ok (.iload_n 2, 1) := by decide +kernel
theorem dX1_writeNumber_19 : decode cX1_writeNumber 19 = .ok (.bipush 16, 2) := by decide +kernel
theorem dX1_writeNumber_21 : decode cX1_writeNumber 21 = .ok (.iushr, 1) := by decide +kernel
theorem dX1_writeNumber_22 : decode cX1_writeNumber 22 = .ok (.i2b, 1) := by decide +kernel
theorem dX1_writeNumber_23 : decode cX1_writeNumber 23 = .ok (.bastore, 1) := by decide +kernel
theorem dX1_writeNumber_24 : decode cX1_writeNumber 24 = .ok (.aload_n 0, 1) := by decide +kernel
theorem dX1_writeNumber_25 : decode cX1_writeNumber 25 = .ok (.getfield 9, 3) := by decide +kernel
theorem dX1_writeNumber_28 : decode cX1_writeNumber 28 = .ok (.iload_n 1, 1) := by decide +kernel
theorem dX1_writeNumber_29 : decode cX1_writeNumber 29 = .ok (.iconst 2, 1) := by decide +kernel
theorem dX1_writeNumber_30 : decode cX1_writeNumber 30 = .ok (.iadd, 1) := by decide +kernel
theorem dX1_writeNumber_31 : decode cX1_writeNumber 31 = .ok (.iload_n 2, 1) := by decide +kernel
theorem dX1_writeNumber_32 : decode cX1_writeNumber 32 = .ok (.bipush 8, 2) := by decide +kernel
theorem dX1_writeNumber_34 : decode cX1_writeNumber 34 = .ok (.iushr, 1) := by decide +kernel
theorem dX1_writeNumber_35 : decode cX1_writeNumber 35 = .ok (.i2b, 1) := by decide +kernel
theorem dX1_writeNumber_36 : decode cX1_writeNumber 36 = .ok (.bastore, 1) := by decide +kernel
theorem dX1_writeNumber_37 : decode cX1_writeNumber 37 = .ok (.aload_n 0, 1) := by decide +kernel
theorem dX1_writeNumber_38 : decode cX1_writeNumber 38 = .ok (.getfield 9, 3) := by decide +kernel
theorem dX1_writeNumber_41 : decode cX1_writeNumber 41 = .ok (.iload_n 1, 1) := by decide +kernel
theorem dX1_writeNumber_42 : decode cX1_writeNumber 42 = .ok (.iconst 3, 1) := by decide +kernel
theorem dX1_writeNumber_43 : decode cX1_writeNumber 43 = .ok (.iadd, 1) := by decide +kernel
theorem dX1_writeNumber_44 : decode cX1_writeNumber 44 = .ok (.iload_n 2, 1) := by decide +kernel
theorem dX1_writeNumber_45 : decode cX1_writeNumber 45 = .ok (.i2b, 1) := by decide +kernel
theorem dX1_writeNumber_46 : decode cX1_writeNumber 46 = .ok (.bastore, 1) := by decide +kernel
theorem dX1_writeNumber_47 : decode cX1_writeNumber 47 = .ok (.return_, 1) := by decide +kernel
end
section
def RX2 : String := "KeySumsModel"
def TX2 : u_T := fun k => match k with
  | 0 => ("KeySumsModel", "constant", "[I", true)
  | 1 => ("KeySumsModel", "turns", "[I", true)
  | 2 => ("KeySumsModel", "begin", "[I", true)
  | 3 => ("KeySumsModel", "times", "[I", true)
  | 4 => ("KeySumsModel", "more", "[I", true)
  | 5 => ("KeySumsModel", "tape", "[I", true)
  | 6 => ("KeySumsModel", "size", "I", false)
  | 7 => ("KeySumsModel", "key", "[I", true)
  | 8 => ("KeySumsModel", "block", "[I", true)
  | 9 => ("KeySumsModel", "four", "[I", true)
  | 10 => ("KeySumsModel", "now", "[I", true)
  | 11 => ("KeySumsModel", "many", "I", false)
  | 12 => ("KeySumsModel", "result", "[I", true)
  | _ => ("KeySumsModel", "isSummed", "Z", false)
def tyX2 : Nat → FieldType := fun k => match k with
  | 0 => .array .int
  | 1 => .array .int
  | 2 => .array .int
  | 3 => .array .int
  | 4 => .array .int
  | 5 => .array .int
  | 6 => .int
  | 7 => .array .int
  | 8 => .array .int
  | 9 => .array .int
  | 10 => .array .int
  | 11 => .int
  | 12 => .array .int
  | _ => .boolean
abbrev wsX20 : List Cond := u_ws RX2 TX2 14
theorem nmX2 : ∀ a, a < 14 → ∀ b, b < 14 → a ≠ b → (TX2 a).2.1 ≠ (TX2 b).2.1 := by decide +kernel
theorem tyX2_ok : ∀ k, k < 14 → parseFieldDescriptor (TX2 k).2.2.1 = some (tyX2 k) := by decide +kernel
abbrev cX2_init : ByteArray := prog_4_method_1_code
def yX2_init : MethodName := ⟨RX2, "<init>", "()V"⟩
abbrev cX2_anew : ByteArray := prog_4_method_3_code
def yX2_anew : MethodName := ⟨RX2, "anew", "()V"⟩
abbrev cX2_feed : ByteArray := prog_4_method_5_code
def yX2_feed : MethodName := ⟨RX2, "feed", "(IIIII)Z"⟩
abbrev cX2_lay : ByteArray := prog_4_method_4_code
def yX2_lay : MethodName := ⟨RX2, "lay", "(I)V"⟩
abbrev cX2_end : ByteArray := prog_4_method_6_code
def yX2_end : MethodName := ⟨RX2, "end", "(I)Z"⟩
abbrev cX2_add : ByteArray := prog_4_method_11_code
def yX2_add : MethodName := ⟨RX2, "add", "()I"⟩
abbrev cX2_come : ByteArray := prog_4_method_10_code
def yX2_come : MethodName := ⟨RX2, "come", "(I)V"⟩
abbrev cX2_step : ByteArray := prog_4_method_9_code
def yX2_step : MethodName := ⟨RX2, "step", "(I)V"⟩
abbrev cX2_mixed : ByteArray := prog_4_method_8_code
def yX2_mixed : MethodName := ⟨RX2, "mixed", "(I)I"⟩
abbrev cX2_word : ByteArray := prog_4_method_7_code
def yX2_word : MethodName := ⟨RX2, "word", "(I)I"⟩
abbrev cX2_fill : ByteArray := prog_4_method_12_code
def yX2_fill : MethodName := ⟨RX2, "fill", "(II)I"⟩
abbrev cX2_key : ByteArray := prog_4_method_13_code
def yX2_key : MethodName := ⟨RX2, "key", "()I"⟩
abbrev cX2_sum : ByteArray := prog_4_method_14_code
def yX2_sum : MethodName := ⟨RX2, "sum", "(Z)I"⟩
abbrev cX2_sumAt : ByteArray := prog_4_method_15_code
def yX2_sumAt : MethodName := ⟨RX2, "sumAt", "(I)I"⟩
def wsX2_anew_r1 : List Cond := [Cond.fieldLink RX2 114 "KeySumsModel" "many" "I", Cond.fieldLink RX2 102 "KeySumsModel" "four" "[I", Cond.fieldLink RX2 84 "KeySumsModel" "begin" "[I"]
def wsX2_anew : List Cond := .code yX2_anew cX2_anew 2 none :: ((wsX2_anew_r1) ++ wsX20)
def wsX2_lay_r1 : List Cond := [Cond.fieldLink RX2 93 "KeySumsModel" "tape" "[I", Cond.fieldLink RX2 118 "KeySumsModel" "size" "I"]
def wsX2_lay : List Cond := .code yX2_lay cX2_lay 3 none :: ((wsX2_lay_r1) ++ wsX20)
def wsX2_end_r1 : List Cond := [Cond.fieldLink RX2 118 "KeySumsModel" "size" "I"]
def wsX2_end : List Cond := .code yX2_end cX2_end 2 (some .boolean) :: ((wsX2_end_r1) ++ wsX20)
def wsX2_word_r1 : List Cond := [Cond.fieldLink RX2 99 "KeySumsModel" "block" "[I"]
def wsX2_word : List Cond := .code yX2_word cX2_word 2 (some .int) :: ((wsX2_word_r1) ++ wsX20)
def wsX2_mixed_r1 : List Cond := [Cond.fieldLink RX2 105 "KeySumsModel" "now" "[I"]
def wsX2_mixed : List Cond := .code yX2_mixed cX2_mixed 5 (some .int) :: ((wsX2_mixed_r1) ++ wsX20)
def wsX2_step_r1 : List Cond := [Cond.fieldLink RX2 77 "KeySumsModel" "turns" "[I", Cond.fieldLink RX2 105 "KeySumsModel" "now" "[I", Cond.methodLink RX2 125 yX2_mixed, Cond.instanceMethod yX2_mixed, Cond.selects RX2 yX2_mixed yX2_mixed, Cond.initialized RX2, Cond.fieldLink RX2 71 "KeySumsModel" "constant" "[I", Cond.fieldLink RX2 87 "KeySumsModel" "times" "[I", Cond.fieldLink RX2 90 "KeySumsModel" "more" "[I", Cond.methodLink RX2 129 yX2_word, Cond.instanceMethod yX2_word, Cond.selects RX2 yX2_word yX2_word, Cond.code yX2_mixed cX2_mixed 5 (some .int), Cond.code yX2_word cX2_word 2 (some .int), Cond.fieldLink RX2 99 "KeySumsModel" "block" "[I"]
def wsX2_step : List Cond := .code yX2_step cX2_step 5 none :: ((wsX2_step_r1) ++ wsX20)
def wsX2_come_r1 : List Cond := [Cond.fieldLink RX2 99 "KeySumsModel" "block" "[I", Cond.fieldLink RX2 114 "KeySumsModel" "many" "I", Cond.fieldLink RX2 105 "KeySumsModel" "now" "[I", Cond.fieldLink RX2 102 "KeySumsModel" "four" "[I", Cond.methodLink RX2 132 yX2_step, Cond.instanceMethod yX2_step, Cond.selects RX2 yX2_step yX2_step, Cond.initialized RX2, Cond.code yX2_step cX2_step 5 none, Cond.fieldLink RX2 77 "KeySumsModel" "turns" "[I", Cond.methodLink RX2 125 yX2_mixed, Cond.instanceMethod yX2_mixed, Cond.selects RX2 yX2_mixed yX2_mixed, Cond.fieldLink RX2 71 "KeySumsModel" "constant" "[I", Cond.fieldLink RX2 87 "KeySumsModel" "times" "[I", Cond.fieldLink RX2 90 "KeySumsModel" "more" "[I", Cond.methodLink RX2 129 yX2_word, Cond.instanceMethod yX2_word, Cond.selects RX2 yX2_word yX2_word, Cond.code yX2_mixed cX2_mixed 5 (some .int), Cond.code yX2_word cX2_word 2 (some .int)]
def wsX2_come : List Cond := .code yX2_come cX2_come 3 none :: ((wsX2_come_r1) ++ wsX20)
def wsX2_feed_r1 : List Cond := [Cond.fieldLink RX2 118 "KeySumsModel" "size" "I", Cond.methodLink RX2 121 yX2_lay, Cond.instanceMethod yX2_lay, Cond.selects RX2 yX2_lay yX2_lay, Cond.initialized RX2, Cond.code yX2_lay cX2_lay 3 none, Cond.fieldLink RX2 93 "KeySumsModel" "tape" "[I"]
def wsX2_feed : List Cond := .code yX2_feed cX2_feed 6 (some .boolean) :: ((wsX2_feed_r1) ++ wsX20)
def wsX2_add_r1 : List Cond := [Cond.fieldLink RX2 118 "KeySumsModel" "size" "I", Cond.fieldLink RX2 93 "KeySumsModel" "tape" "[I", Cond.methodLink RX2 135 yX2_come, Cond.instanceMethod yX2_come, Cond.selects RX2 yX2_come yX2_come, Cond.initialized RX2, Cond.fieldLink RX2 114 "KeySumsModel" "many" "I", Cond.code yX2_come cX2_come 3 none, Cond.fieldLink RX2 99 "KeySumsModel" "block" "[I", Cond.fieldLink RX2 105 "KeySumsModel" "now" "[I", Cond.fieldLink RX2 102 "KeySumsModel" "four" "[I", Cond.methodLink RX2 132 yX2_step, Cond.instanceMethod yX2_step, Cond.selects RX2 yX2_step yX2_step, Cond.code yX2_step cX2_step 5 none, Cond.fieldLink RX2 77 "KeySumsModel" "turns" "[I", Cond.methodLink RX2 125 yX2_mixed, Cond.instanceMethod yX2_mixed, Cond.selects RX2 yX2_mixed yX2_mixed, Cond.fieldLink RX2 71 "KeySumsModel" "constant" "[I", Cond.fieldLink RX2 87 "KeySumsModel" "times" "[I", Cond.fieldLink RX2 90 "KeySumsModel" "more" "[I", Cond.methodLink RX2 129 yX2_word, Cond.instanceMethod yX2_word]
def wsX2_add_r2 : List Cond := [Cond.selects RX2 yX2_word yX2_word, Cond.code yX2_mixed cX2_mixed 5 (some .int), Cond.code yX2_word cX2_word 2 (some .int)]
def wsX2_add : List Cond := .code yX2_add cX2_add 2 (some .int) :: ((wsX2_add_r1 ++ wsX2_add_r2) ++ wsX20)
def wsX2_fill_r1 : List Cond := [Cond.methodLink RX2 135 yX2_come, Cond.instanceMethod yX2_come, Cond.selects RX2 yX2_come yX2_come, Cond.initialized RX2, Cond.fieldLink RX2 114 "KeySumsModel" "many" "I", Cond.code yX2_come cX2_come 3 none, Cond.fieldLink RX2 99 "KeySumsModel" "block" "[I", Cond.fieldLink RX2 105 "KeySumsModel" "now" "[I", Cond.fieldLink RX2 102 "KeySumsModel" "four" "[I", Cond.methodLink RX2 132 yX2_step, Cond.instanceMethod yX2_step, Cond.selects RX2 yX2_step yX2_step, Cond.code yX2_step cX2_step 5 none, Cond.fieldLink RX2 77 "KeySumsModel" "turns" "[I", Cond.methodLink RX2 125 yX2_mixed, Cond.instanceMethod yX2_mixed, Cond.selects RX2 yX2_mixed yX2_mixed, Cond.fieldLink RX2 71 "KeySumsModel" "constant" "[I", Cond.fieldLink RX2 87 "KeySumsModel" "times" "[I", Cond.fieldLink RX2 90 "KeySumsModel" "more" "[I", Cond.methodLink RX2 129 yX2_word, Cond.instanceMethod yX2_word, Cond.selects RX2 yX2_word yX2_word, Cond.code yX2_mixed cX2_mixed 5 (some .int)]
def wsX2_fill_r2 : List Cond := [Cond.code yX2_word cX2_word 2 (some .int)]
def wsX2_fill : List Cond := .code yX2_fill cX2_fill 4 (some .int) :: ((wsX2_fill_r1 ++ wsX2_fill_r2) ++ wsX20)
def wsX2_key_r1 : List Cond := [Cond.fieldLink RX2 118 "KeySumsModel" "size" "I", Cond.fieldLink RX2 96 "KeySumsModel" "key" "[I", Cond.fieldLink RX2 93 "KeySumsModel" "tape" "[I"]
def wsX2_key : List Cond := .code yX2_key cX2_key 3 (some .int) :: ((wsX2_key_r1) ++ wsX20)
def wsX2_sum_r1 : List Cond := [Cond.fieldLink RX2 114 "KeySumsModel" "many" "I", Cond.fieldLink RX2 96 "KeySumsModel" "key" "[I", Cond.methodLink RX2 135 yX2_come, Cond.instanceMethod yX2_come, Cond.selects RX2 yX2_come yX2_come, Cond.initialized RX2, Cond.constantLong RX2 138 (8), Cond.fieldLink RX2 108 "KeySumsModel" "result" "[I", Cond.fieldLink RX2 102 "KeySumsModel" "four" "[I", Cond.fieldLink RX2 140 "KeySumsModel" "isSummed" "Z", Cond.methodLink RX2 111 yX2_anew, Cond.instanceMethod yX2_anew, Cond.selects RX2 yX2_anew yX2_anew, Cond.code yX2_come cX2_come 3 none, Cond.fieldLink RX2 99 "KeySumsModel" "block" "[I", Cond.fieldLink RX2 105 "KeySumsModel" "now" "[I", Cond.methodLink RX2 132 yX2_step, Cond.instanceMethod yX2_step, Cond.selects RX2 yX2_step yX2_step, Cond.code yX2_step cX2_step 5 none, Cond.fieldLink RX2 77 "KeySumsModel" "turns" "[I", Cond.methodLink RX2 125 yX2_mixed, Cond.instanceMethod yX2_mixed, Cond.selects RX2 yX2_mixed yX2_mixed]
def wsX2_sum_r2 : List Cond := [Cond.fieldLink RX2 71 "KeySumsModel" "constant" "[I", Cond.fieldLink RX2 87 "KeySumsModel" "times" "[I", Cond.fieldLink RX2 90 "KeySumsModel" "more" "[I", Cond.methodLink RX2 129 yX2_word, Cond.instanceMethod yX2_word, Cond.selects RX2 yX2_word yX2_word, Cond.code yX2_mixed cX2_mixed 5 (some .int), Cond.code yX2_word cX2_word 2 (some .int), Cond.code yX2_anew cX2_anew 2 none, Cond.fieldLink RX2 84 "KeySumsModel" "begin" "[I"]
def wsX2_sum : List Cond := .code yX2_sum cX2_sum 6 (some .int) :: ((wsX2_sum_r1 ++ wsX2_sum_r2) ++ wsX20)
def wsX2_sumAt_r1 : List Cond := [Cond.fieldLink RX2 140 "KeySumsModel" "isSummed" "Z", Cond.fieldLink RX2 108 "KeySumsModel" "result" "[I"]
def wsX2_sumAt : List Cond := .code yX2_sumAt cX2_sumAt 2 (some .int) :: ((wsX2_sumAt_r1) ++ wsX20)
def wsX2_init_r1 : List Cond := [Cond.methodLink RX2 1 objectInit, Cond.instanceMethod objectInit, Cond.code objectInit ⟨#[0xb1]⟩ 1 none, Cond.arrayClass .int, Cond.constant RX2 7 (-680876936), Cond.constant RX2 8 (-389564586), Cond.constant RX2 9 (606105819), Cond.constant RX2 10 (-1044525330), Cond.constant RX2 11 (-176418897), Cond.constant RX2 12 (1200080426), Cond.constant RX2 13 (-1473231341), Cond.constant RX2 14 (-45705983), Cond.constant RX2 15 (1770035416), Cond.constant RX2 16 (-1958414417), Cond.constant RX2 17 (-42063), Cond.constant RX2 18 (-1990404162), Cond.constant RX2 19 (1804603682), Cond.constant RX2 20 (-40341101), Cond.constant RX2 21 (-1502002290), Cond.constant RX2 22 (1236535329), Cond.constant RX2 23 (-165796510), Cond.constant RX2 24 (-1069501632), Cond.constant RX2 25 (643717713), Cond.constant RX2 26 (-373897302)]
def wsX2_init_r2 : List Cond := [Cond.constant RX2 27 (-701558691), Cond.constant RX2 28 (38016083), Cond.constant RX2 29 (-660478335), Cond.constant RX2 30 (-405537848), Cond.constant RX2 31 (568446438), Cond.constant RX2 32 (-1019803690), Cond.constant RX2 33 (-187363961), Cond.constant RX2 34 (1163531501), Cond.constant RX2 35 (-1444681467), Cond.constant RX2 36 (-51403784), Cond.constant RX2 37 (1735328473), Cond.constant RX2 38 (-1926607734), Cond.constant RX2 39 (-378558), Cond.constant RX2 40 (-2022574463), Cond.constant RX2 41 (1839030562), Cond.constant RX2 42 (-35309556), Cond.constant RX2 43 (-1530992060), Cond.constant RX2 44 (1272893353), Cond.constant RX2 45 (-155497632), Cond.constant RX2 46 (-1094730640), Cond.constant RX2 47 (681279174), Cond.constant RX2 48 (-358537222), Cond.constant RX2 49 (-722521979), Cond.constant RX2 50 (76029189)]
def wsX2_init_r3 : List Cond := [Cond.constant RX2 51 (-640364487), Cond.constant RX2 52 (-421815835), Cond.constant RX2 53 (530742520), Cond.constant RX2 54 (-995338651), Cond.constant RX2 55 (-198630844), Cond.constant RX2 56 (1126891415), Cond.constant RX2 57 (-1416354905), Cond.constant RX2 58 (-57434055), Cond.constant RX2 59 (1700485571), Cond.constant RX2 60 (-1894986606), Cond.constant RX2 61 (-1051523), Cond.constant RX2 62 (-2054922799), Cond.constant RX2 63 (1873313359), Cond.constant RX2 64 (-30611744), Cond.constant RX2 65 (-1560198380), Cond.constant RX2 66 (1309151649), Cond.constant RX2 67 (-145523070), Cond.constant RX2 68 (-1120210379), Cond.constant RX2 69 (718787259), Cond.constant RX2 70 (-343485551), Cond.fieldLink RX2 71 "KeySumsModel" "constant" "[I", Cond.fieldLink RX2 77 "KeySumsModel" "turns" "[I", Cond.constant RX2 80 (1732584193), Cond.constant RX2 81 (-271733879)]
def wsX2_init_r4 : List Cond := [Cond.constant RX2 82 (-1732584194), Cond.constant RX2 83 (271733878), Cond.fieldLink RX2 84 "KeySumsModel" "begin" "[I", Cond.fieldLink RX2 87 "KeySumsModel" "times" "[I", Cond.fieldLink RX2 90 "KeySumsModel" "more" "[I", Cond.fieldLink RX2 93 "KeySumsModel" "tape" "[I", Cond.fieldLink RX2 96 "KeySumsModel" "key" "[I", Cond.fieldLink RX2 99 "KeySumsModel" "block" "[I", Cond.fieldLink RX2 102 "KeySumsModel" "four" "[I", Cond.fieldLink RX2 105 "KeySumsModel" "now" "[I", Cond.fieldLink RX2 108 "KeySumsModel" "result" "[I", Cond.methodLink RX2 111 yX2_anew, Cond.instanceMethod yX2_anew, Cond.selects RX2 yX2_anew yX2_anew, Cond.initialized RX2, Cond.code yX2_anew cX2_anew 2 none, Cond.fieldLink RX2 114 "KeySumsModel" "many" "I"]
def wsX2_init : List Cond := .code yX2_init cX2_init 1 none :: ((wsX2_init_r1 ++ wsX2_init_r2 ++ wsX2_init_r3 ++ wsX2_init_r4) ++ wsX20)
set_option maxRecDepth 20000 in
theorem ggX2_step_X2_mixed : GoodIn wsX2_step wsX2_mixed := goodIn_r _ [13, 2, 16, 17, 18, 19, 20, 21, 22, 23, 24, 25, 26, 27, 28, 29] (by decide +kernel) (by decide +kernel)
set_option maxRecDepth 20000 in
theorem gX2_step_X2_mixed : GoodIn wsX2_step (wsV RX2 125 RX2 yX2_mixed wsX2_mixed) := goodIn_app (goodIn_r _ [3, 4, 5, 6] (by decide +kernel) (by decide +kernel)) ggX2_step_X2_mixed
set_option maxRecDepth 20000 in
theorem ggX2_step_X2_word : GoodIn wsX2_step wsX2_word := goodIn_r _ [14, 15, 16, 17, 18, 19, 20, 21, 22, 23, 24, 25, 26, 27, 28, 29] (by decide +kernel) (by decide +kernel)
set_option maxRecDepth 20000 in
theorem gX2_step_X2_word : GoodIn wsX2_step (wsV RX2 129 RX2 yX2_word wsX2_word) := goodIn_app (goodIn_r _ [10, 11, 12, 6] (by decide +kernel) (by decide +kernel)) ggX2_step_X2_word
set_option maxRecDepth 20000 in
theorem ggX2_come_X2_step : GoodIn wsX2_come wsX2_step := goodIn_r _ [9, 10, 3, 11, 12, 13, 8, 14, 15, 16, 17, 18, 19, 20, 21, 1, 22, 23, 24, 25, 26, 27, 28, 29, 30, 31, 32, 33, 34, 35] (by decide +kernel) (by decide +kernel)
set_option maxRecDepth 20000 in
theorem gX2_come_X2_step : GoodIn wsX2_come (wsV RX2 132 RX2 yX2_step wsX2_step) := goodIn_app (goodIn_r _ [5, 6, 7, 8] (by decide +kernel) (by decide +kernel)) ggX2_come_X2_step
set_option maxRecDepth 20000 in
theorem ggX2_feed_X2_lay : GoodIn wsX2_feed wsX2_lay := goodIn_r _ [6, 7, 1, 8, 9, 10, 11, 12, 13, 14, 15, 16, 17, 18, 19, 20, 21] (by decide +kernel) (by decide +kernel)
set_option maxRecDepth 20000 in
theorem gX2_feed_X2_lay : GoodIn wsX2_feed (wsV RX2 121 RX2 yX2_lay wsX2_lay) := goodIn_app (goodIn_r _ [2, 3, 4, 5] (by decide +kernel) (by decide +kernel)) ggX2_feed_X2_lay
set_option maxRecDepth 20000 in
theorem ggX2_add_X2_come : GoodIn wsX2_add wsX2_come := goodIn_r _ [8, 9, 7, 10, 11, 12, 13, 14, 6, 15, 16, 17, 18, 19, 20, 21, 22, 23, 24, 25, 26, 27, 28, 29, 30, 31, 32, 33, 34, 35, 36, 37, 38, 39, 40, 41] (by decide +kernel) (by decide +kernel)
set_option maxRecDepth 20000 in
theorem gX2_add_X2_come : GoodIn wsX2_add (wsV RX2 135 RX2 yX2_come wsX2_come) := goodIn_app (goodIn_r _ [3, 4, 5, 6] (by decide +kernel) (by decide +kernel)) ggX2_add_X2_come
set_option maxRecDepth 20000 in
theorem ggX2_fill_X2_come : GoodIn wsX2_fill wsX2_come := goodIn_r _ [6, 7, 5, 8, 9, 10, 11, 12, 4, 13, 14, 15, 16, 17, 18, 19, 20, 21, 22, 23, 24, 25, 26, 27, 28, 29, 30, 31, 32, 33, 34, 35, 36, 37, 38, 39] (by decide +kernel) (by decide +kernel)
set_option maxRecDepth 20000 in
theorem gX2_fill_X2_come : GoodIn wsX2_fill (wsV RX2 135 RX2 yX2_come wsX2_come) := goodIn_app (goodIn_r _ [1, 2, 3, 4] (by decide +kernel) (by decide +kernel)) ggX2_fill_X2_come
set_option maxRecDepth 20000 in
theorem ggX2_sum_X2_come : GoodIn wsX2_sum wsX2_come := goodIn_r _ [14, 15, 1, 16, 9, 17, 18, 19, 6, 20, 21, 22, 23, 24, 25, 26, 27, 28, 29, 30, 31, 32, 35, 36, 37, 38, 39, 40, 41, 42, 43, 44, 45, 46, 47, 48] (by decide +kernel) (by decide +kernel)
set_option maxRecDepth 20000 in
theorem gX2_sum_X2_come : GoodIn wsX2_sum (wsV RX2 135 RX2 yX2_come wsX2_come) := goodIn_app (goodIn_r _ [3, 4, 5, 6] (by decide +kernel) (by decide +kernel)) ggX2_sum_X2_come
set_option maxRecDepth 20000 in
theorem ggX2_sum_X2_anew : GoodIn wsX2_sum wsX2_anew := goodIn_r _ [33, 1, 9, 34, 35, 36, 37, 38, 39, 40, 41, 42, 43, 44, 45, 46, 47, 48] (by decide +kernel) (by decide +kernel)
set_option maxRecDepth 20000 in
theorem gX2_sum_X2_anew : GoodIn wsX2_sum (wsV RX2 111 RX2 yX2_anew wsX2_anew) := goodIn_app (goodIn_r _ [11, 12, 13, 6] (by decide +kernel) (by decide +kernel)) ggX2_sum_X2_anew
set_option maxRecDepth 20000 in
theorem ggX2_init_X2_anew : GoodIn wsX2_init wsX2_anew := goodIn_r _ [88, 89, 81, 75, 90, 91, 92, 93, 94, 95, 96, 97, 98, 99, 100, 101, 102, 103] (by decide +kernel) (by decide +kernel)
set_option maxRecDepth 20000 in
theorem gX2_init_X2_anew : GoodIn wsX2_init (wsV RX2 111 RX2 yX2_anew wsX2_anew) := goodIn_app (goodIn_r _ [84, 85, 86, 87] (by decide +kernel) (by decide +kernel)) ggX2_init_X2_anew
abbrev vwCl : List vw_C := [(RX0, TX0, 6), (RX1, TX1, 6), (RX2, TX2, 14)]
end
section
theorem dX2_anew_0 : decode cX2_anew 0 = .ok (.aload_n 0, 1) := by decide +kernel
theorem dX2_anew_1 : decode cX2_anew 1 = .ok (.iconst 0, 1) := by decide +kernel
theorem dX2_anew_2 : decode cX2_anew 2 = .ok (.putfield 114, 3) := by decide +kernel
theorem dX2_anew_5 : decode cX2_anew 5 = .ok (.iconst 0, 1) := by decide +kernel
theorem dX2_anew_6 : decode cX2_anew 6 = .ok (.istore_n 1, 1) := by decide +kernel
theorem dX2_anew_7 : decode cX2_anew 7 = .ok (.iload_n 1, 1) := by decide +kernel
theorem dX2_anew_8 : decode cX2_anew 8 = .ok (.iconst 4, 1) := by decide +kernel
theorem dX2_anew_9 : decode cX2_anew 9 = .ok (.if_icmp .ge 21, 3) := by decide +kernel
theorem dX2_anew_12 : decode cX2_anew 12 = .ok (.aload_n 0, 1) := by decide +kernel
theorem dX2_anew_13 : decode cX2_anew 13 = .ok (.getfield 102, 3) := by decide +kernel
theorem dX2_anew_16 : decode cX2_anew 16 = .ok (.iload_n 1, 1) := by decide +kernel
theorem dX2_anew_17 : decode cX2_anew 17 = .ok (.aload_n 0, 1) := by decide +kernel
theorem dX2_anew_18 : decode cX2_anew 18 = .ok (.getfield 84, 3) := by decide +kernel
theorem dX2_anew_21 : decode cX2_anew 21 = .ok (.iload_n 1, 1) := by decide +kernel
theorem dX2_anew_22 : decode cX2_anew 22 = .ok (.iaload, 1) := by decide +kernel
theorem dX2_anew_23 : decode cX2_anew 23 = .ok (.iastore, 1) := by decide +kernel
theorem dX2_anew_24 : decode cX2_anew 24 = .ok (.iinc 1 1, 3) := by decide +kernel
theorem dX2_anew_27 : decode cX2_anew 27 = .ok (.goto (-20), 3) := by decide +kernel
theorem dX2_anew_30 : decode cX2_anew 30 = .ok (.return_, 1) := by decide +kernel
theorem dX2_lay_0 : decode cX2_lay 0 = .ok (.bipush 24, 2) := by decide +kernel
theorem dX2_lay_2 : decode cX2_lay 2 = .ok (.istore_n 2, 1) := by decide +kernel
theorem dX2_lay_3 : decode cX2_lay 3 = .ok (.iload_n 2, 1) := by decide +kernel
theorem dX2_lay_4 : decode cX2_lay 4 = .ok (.ifCond .lt 35, 3) := by decide +kernel
theorem dX2_lay_7 : decode cX2_lay 7 = .ok (.aload_n 0, 1) := by decide +kernel
theorem dX2_lay_8 : decode cX2_lay 8 = .ok (.getfield 93, 3) := by decide +kernel
theorem dX2_lay_11 : decode cX2_lay 11 = .ok (.aload_n 0, 1) := by decide +kernel
theorem dX2_lay_12 : decode cX2_lay 12 = .ok (.getfield 118, 3) := by decide +kernel
theorem dX2_lay_15 : decode cX2_lay 15 = .ok (.iload_n 1, 1) := by decide +kernel
theorem dX2_lay_16 : decode cX2_lay 16 = .ok (.iload_n 2, 1) := by decide +kernel
theorem dX2_lay_17 : decode cX2_lay 17 = .ok (.ishr, 1) := by decide +kernel
theorem dX2_lay_18 : decode cX2_lay 18 = .ok (.sipush 255, 3) := by decide +kernel
theorem dX2_lay_21 : decode cX2_lay 21 = .ok (.iand, 1) := by decide +kernel
theorem dX2_lay_22 : decode cX2_lay 22 = .ok (.iastore, 1) := by decide +kernel
theorem dX2_lay_23 : decode cX2_lay 23 = .ok (.aload_n 0, 1) := by decide +kernel
theorem dX2_lay_24 : decode cX2_lay 24 = .ok (.dup, 1) := by decide +kernel
theorem dX2_lay_25 : decode cX2_lay 25 = .ok (.getfield 118, 3) := by decide +kernel
theorem dX2_lay_28 : decode cX2_lay 28 = .ok (.iconst 1, 1) := by decide +kernel
theorem dX2_lay_29 : decode cX2_lay 29 = .ok (.iadd, 1) := by decide +kernel
theorem dX2_lay_30 : decode cX2_lay 30 = .ok (.putfield 118, 3) := by decide +kernel
theorem dX2_lay_33 : decode cX2_lay 33 = .ok (.iinc 2 (-8), 3) := by decide +kernel
theorem dX2_lay_36 : decode cX2_lay 36 = .ok (.goto (-33), 3) := by decide +kernel
theorem dX2_lay_39 : decode cX2_lay 39 = .ok (.return_, 1) := by decide +kernel
theorem dX2_feed_0 : decode cX2_feed 0 = .ok (.aload_n 0, 1) := by decide +kernel
theorem dX2_feed_1 : decode cX2_feed 1 = .ok (.getfield 118, 3) := by decide +kernel
theorem dX2_feed_4 : decode cX2_feed 4 = .ok (.bipush 20, 2) := by decide +kernel
theorem dX2_feed_6 : decode cX2_feed 6 = .ok (.iadd, 1) := by decide +kernel
theorem dX2_feed_7 : decode cX2_feed 7 = .ok (.sipush 2000, 3) := by decide +kernel
theorem dX2_feed_10 : decode cX2_feed 10 = .ok (.if_icmp .le 5, 3) := by decide +kernel
theorem dX2_feed_13 : decode cX2_feed 13 = .ok (.iconst 0, 1) := by decide +kernel
theorem dX2_feed_14 : decode cX2_feed 14 = .ok (.ireturn, 1) := by decide +kernel
theorem dX2_feed_15 : decode cX2_feed 15 = .ok (.aload_n 0, 1) := by decide +kernel
theorem dX2_feed_16 : decode cX2_feed 16 = .ok (.iload_n 1, 1) := by decide +kernel
theorem dX2_feed_17 : decode cX2_feed 17 = .ok (.invokevirtual 121, 3) := by decide +kernel
theorem dX2_feed_20 : decode cX2_feed 20 = .ok (.aload_n 0, 1) := by decide +kernel
theorem dX2_feed_21 : decode cX2_feed 21 = .ok (.iload_n 2, 1) := by decide +kernel
theorem dX2_feed_22 : decode cX2_feed 22 = .ok (.invokevirtual 121, 3) := by decide +kernel
theorem dX2_feed_25 : decode cX2_feed 25 = .ok (.aload_n 0, 1) := by decide +kernel
theorem dX2_feed_26 : decode cX2_feed 26 = .ok (.iload_n 3, 1) := by decide +kernel
theorem dX2_feed_27 : decode cX2_feed 27 = .ok (.invokevirtual 121, 3) := by decide +kernel
theorem dX2_feed_30 : decode cX2_feed 30 = .ok (.aload_n 0, 1) := by decide +kernel
theorem dX2_feed_31 : decode cX2_feed 31 = .ok (.iload 4, 2) := by decide +kernel
theorem dX2_feed_33 : decode cX2_feed 33 = .ok (.invokevirtual 121, 3) := by decide +kernel
theorem dX2_feed_36 : decode cX2_feed 36 = .ok (.aload_n 0, 1) := by decide +kernel
theorem dX2_feed_37 : decode cX2_feed 37 = .ok (.iload 5, 2) := by decide +kernel
theorem dX2_feed_39 : decode cX2_feed 39 = .ok (.invokevirtual 121, 3) := by decide +kernel
theorem dX2_feed_42 : decode cX2_feed 42 = .ok (.iconst 1, 1) := by decide +kernel
theorem dX2_feed_43 : decode cX2_feed 43 = .ok (.ireturn, 1) := by decide +kernel
theorem dX2_end_0 : decode cX2_end 0 = .ok (.iload_n 1, 1) := by decide +kernel
theorem dX2_end_1 : decode cX2_end 1 = .ok (.ifCond .lt 11, 3) := by decide +kernel
theorem dX2_end_4 : decode cX2_end 4 = .ok (.iload_n 1, 1) := by decide +kernel
theorem dX2_end_5 : decode cX2_end 5 = .ok (.aload_n 0, 1) := by decide +kernel
theorem dX2_end_6 : decode cX2_end 6 = .ok (.getfield 118, 3) := by decide +kernel
theorem dX2_end_9 : decode cX2_end 9 = .ok (.if_icmp .le 5, 3) := by decide +kernel
theorem dX2_end_12 : decode cX2_end 12 = .ok (.iconst 0, 1) := by decide +kernel
theorem dX2_end_13 : decode cX2_end 13 = .ok (.ireturn, 1) := by decide +kernel
theorem dX2_end_14 : decode cX2_end 14 = .ok (.aload_n 0, 1) := by decide +kernel
theorem dX2_end_15 : decode cX2_end 15 = .ok (.iload_n 1, 1) := by decide +kernel
theorem dX2_end_16 : decode cX2_end 16 = .ok (.putfield 118, 3) := by decide +kernel
theorem dX2_end_19 : decode cX2_end 19 = .ok (.iconst 1, 1) := by decide +kernel
theorem dX2_end_20 : decode cX2_end 20 = .ok (.ireturn, 1) := by decide +kernel
theorem dX2_word_0 : decode cX2_word 0 = .ok (.aload_n 0, 1) := by decide +kernel
theorem dX2_word_1 : decode cX2_word 1 = .ok (.getfield 99, 3) := by decide +kernel
theorem dX2_word_4 : decode cX2_word 4 = .ok (.iconst 4, 1) := by decide +kernel
theorem dX2_word_5 : decode cX2_word 5 = .ok (.iload_n 1, 1) := by decide +kernel
theorem dX2_word_6 : decode cX2_word 6 = .ok (.imul, 1) := by decide +kernel
theorem dX2_word_7 : decode cX2_word 7 = .ok (.iaload, 1) := by decide +kernel
theorem dX2_word_8 : decode cX2_word 8 = .ok (.aload_n 0, 1) := by decide +kernel
theorem dX2_word_9 : decode cX2_word 9 = .ok (.getfield 99, 3) := by decide +kernel
theorem dX2_word_12 : decode cX2_word 12 = .ok (.iconst 4, 1) := by decide +kernel
theorem dX2_word_13 : decode cX2_word 13 = .ok (.iload_n 1, 1) := by decide +kernel
theorem dX2_word_14 : decode cX2_word 14 = .ok (.imul, 1) := by decide +kernel
theorem dX2_word_15 : decode cX2_word 15 = .ok (.iconst 1, 1) := by decide +kernel
theorem dX2_word_16 : decode cX2_word 16 = .ok (.iadd, 1) := by decide +kernel
theorem dX2_word_17 : decode cX2_word 17 = .ok (.iaload, 1) := by decide +kernel
theorem dX2_word_18 : decode cX2_word 18 = .ok (.bipush 8, 2) := by decide +kernel
theorem dX2_word_20 : decode cX2_word 20 = .ok (.ishl, 1) := by decide +kernel
theorem dX2_word_21 : decode cX2_word 21 = .ok (.ior, 1) := by decide +kernel
theorem dX2_word_22 : decode cX2_word 22 = .ok (.aload_n 0, 1) := by decide +kernel
theorem dX2_word_23 : decode cX2_word 23 = .ok (.getfield 99, 3) := by decide +kernel
theorem dX2_word_26 : decode cX2_word 26 = .ok (.iconst 4, 1) := by decide +kernel
theorem dX2_word_27 : decode cX2_word 27 = .ok (.iload_n 1, 1) := by decide +kernel
theorem dX2_word_28 : decode cX2_word 28 = .ok (.imul, 1) := by decide +kernel
theorem dX2_word_29 : decode cX2_word 29 = .ok (.iconst 2, 1) := by decide +kernel
theorem dX2_word_30 : decode cX2_word 30 = .ok (.iadd, 1) := by decide +kernel
theorem dX2_word_31 : decode cX2_word 31 = .ok (.iaload, 1) := by decide +kernel
theorem dX2_word_32 : decode cX2_word 32 = .ok (.bipush 16, 2) := by decide +kernel
theorem dX2_word_34 : decode cX2_word 34 = .ok (.ishl, 1) := by decide +kernel
theorem dX2_word_35 : decode cX2_word 35 = .ok (.ior, 1) := by decide +kernel
theorem dX2_word_36 : decode cX2_word 36 = .ok (.aload_n 0, 1) := by decide +kernel
theorem dX2_word_37 : decode cX2_word 37 = .ok (.getfield 99, 3) := by decide +kernel
theorem dX2_word_40 : decode cX2_word 40 = .ok (.iconst 4, 1) := by decide +kernel
theorem dX2_word_41 : decode cX2_word 41 = .ok (.iload_n 1, 1) := by decide +kernel
theorem dX2_word_42 : decode cX2_word 42 = .ok (.imul, 1) := by decide +kernel
theorem dX2_word_43 : decode cX2_word 43 = .ok (.iconst 3, 1) := by decide +kernel
theorem dX2_word_44 : decode cX2_word 44 = .ok (.iadd, 1) := by decide +kernel
theorem dX2_word_45 : decode cX2_word 45 = .ok (.iaload, 1) := by decide +kernel
theorem dX2_word_46 : decode cX2_word 46 = .ok (.bipush 24, 2) := by decide +kernel
theorem dX2_word_48 : decode cX2_word 48 = .ok (.ishl, 1) := by decide +kernel
theorem dX2_word_49 : decode cX2_word 49 = .ok (.ior, 1) := by decide +kernel
theorem dX2_word_50 : decode cX2_word 50 = .ok (.ireturn, 1) := by decide +kernel
theorem dX2_mixed_0 : decode cX2_mixed 0 = .ok (.aload_n 0, 1) := by decide +kernel
theorem dX2_mixed_1 : decode cX2_mixed 1 = .ok (.getfield 105, 3) := by decide +kernel
theorem dX2_mixed_4 : decode cX2_mixed 4 = .ok (.iconst 1, 1) := by decide +kernel
theorem dX2_mixed_5 : decode cX2_mixed 5 = .ok (.iaload, 1) := by decide +kernel
theorem dX2_mixed_6 : decode cX2_mixed 6 = .ok (.istore_n 2, 1) := by decide +kernel
theorem dX2_mixed_7 : decode cX2_mixed 7 = .ok (.aload_n 0, 1) := by decide +kernel
theorem dX2_mixed_8 : decode cX2_mixed 8 = .ok (.getfield 105, 3) := by decide +kernel
theorem dX2_mixed_11 : decode cX2_mixed 11 = .ok (.iconst 2, 1) := by decide +kernel
theorem dX2_mixed_12 : decode cX2_mixed 12 = .ok (.iaload, 1) := by decide +kernel
theorem dX2_mixed_13 : decode cX2_mixed 13 = .ok (.istore_n 3, 1) := by decide +kernel
theorem dX2_mixed_14 : decode cX2_mixed 14 = .ok (.aload_n 0, 1) := by decide +kernel
theorem dX2_mixed_15 : decode cX2_mixed 15 = .ok (.getfield 105, 3) := by decide +kernel
theorem dX2_mixed_18 : decode cX2_mixed 18 = .ok (.iconst 3, 1) := by decide +kernel
theorem dX2_mixed_19 : decode cX2_mixed 19 = .ok (.iaload, 1) := by decide +kernel
theorem dX2_mixed_20 : decode cX2_mixed 20 = .ok (.istore 4, 2) := by decide +kernel
theorem dX2_mixed_22 : decode cX2_mixed 22 = .ok (.iload_n 1, 1) := by decide +kernel
theorem dX2_mixed_23 : decode cX2_mixed 23 = .ok (.tableswitch 55 0 2 #[25, 36, 48], 25) := by decide +kernel
theorem dX2_mixed_48 : decode cX2_mixed 48 = .ok (.iload_n 2, 1) := by decide +kernel
theorem dX2_mixed_49 : decode cX2_mixed 49 = .ok (.iload_n 3, 1) := by decide +kernel
theorem dX2_mixed_50 : decode cX2_mixed 50 = .ok (.iand, 1) := by decide +kernel
theorem dX2_mixed_51 : decode cX2_mixed 51 = .ok (.iload_n 2, 1) := by decide +kernel
theorem dX2_mixed_52 : decode cX2_mixed 52 = .ok (.iconst (-1), 1) := by decide +kernel
theorem dX2_mixed_53 : decode cX2_mixed 53 = .ok (.ixor, 1) := by decide +kernel
theorem dX2_mixed_54 : decode cX2_mixed 54 = .ok (.iload 4, 2) := by decide +kernel
theorem dX2_mixed_56 : decode cX2_mixed 56 = .ok (.iand, 1) := by decide +kernel
theorem dX2_mixed_57 : decode cX2_mixed 57 = .ok (.ior, 1) := by decide +kernel
theorem dX2_mixed_58 : decode cX2_mixed 58 = .ok (.ireturn, 1) := by decide +kernel
theorem dX2_mixed_59 : decode cX2_mixed 59 = .ok (.iload 4, 2) := by decide +kernel
theorem dX2_mixed_61 : decode cX2_mixed 61 = .ok (.iload_n 2, 1) := by decide +kernel
theorem dX2_mixed_62 : decode cX2_mixed 62 = .ok (.iand, 1) := by decide +kernel
theorem dX2_mixed_63 : decode cX2_mixed 63 = .ok (.iload 4, 2) := by decide +kernel
theorem dX2_mixed_65 : decode cX2_mixed 65 = .ok (.iconst (-1), 1) := by decide +kernel
theorem dX2_mixed_66 : decode cX2_mixed 66 = .ok (.ixor, 1) := by decide +kernel
theorem dX2_mixed_67 : decode cX2_mixed 67 = .ok (.iload_n 3, 1) := by decide +kernel
theorem dX2_mixed_68 : decode cX2_mixed 68 = .ok (.iand, 1) := by decide +kernel
theorem dX2_mixed_69 : decode cX2_mixed 69 = .ok (.ior, 1) := by decide +kernel
theorem dX2_mixed_70 : decode cX2_mixed 70 = .ok (.ireturn, 1) := by decide +kernel
theorem dX2_mixed_71 : decode cX2_mixed 71 = .ok (.iload_n 2, 1) := by decide +kernel
theorem dX2_mixed_72 : decode cX2_mixed 72 = .ok (.iload_n 3, 1) := by decide +kernel
theorem dX2_mixed_73 : decode cX2_mixed 73 = .ok (.ixor, 1) := by decide +kernel
theorem dX2_mixed_74 : decode cX2_mixed 74 = .ok (.iload 4, 2) := by decide +kernel
theorem dX2_mixed_76 : decode cX2_mixed 76 = .ok (.ixor, 1) := by decide +kernel
theorem dX2_mixed_77 : decode cX2_mixed 77 = .ok (.ireturn, 1) := by decide +kernel
theorem dX2_mixed_78 : decode cX2_mixed 78 = .ok (.iload_n 3, 1) := by decide +kernel
theorem dX2_mixed_79 : decode cX2_mixed 79 = .ok (.iload_n 2, 1) := by decide +kernel
theorem dX2_mixed_80 : decode cX2_mixed 80 = .ok (.iload 4, 2) := by decide +kernel
theorem dX2_mixed_82 : decode cX2_mixed 82 = .ok (.iconst (-1), 1) := by decide +kernel
theorem dX2_mixed_83 : decode cX2_mixed 83 = .ok (.ixor, 1) := by decide +kernel
theorem dX2_mixed_84 : decode cX2_mixed 84 = .ok (.ior, 1) := by decide +kernel
theorem dX2_mixed_85 : decode cX2_mixed 85 = .ok (.ixor, 1) := by decide +kernel
theorem dX2_mixed_86 : decode cX2_mixed 86 = .ok (.ireturn, 1) := by decide +kernel
theorem dX2_step_0 : decode cX2_step 0 = .ok (.iload_n 1, 1) := by decide +kernel
theorem dX2_step_1 : decode cX2_step 1 = .ok (.bipush 16, 2) := by decide +kernel
theorem dX2_step_3 : decode cX2_step 3 = .ok (.idiv, 1) := by decide +kernel
theorem dX2_step_4 : decode cX2_step 4 = .ok (.istore_n 2, 1) := by decide +kernel
theorem dX2_step_5 : decode cX2_step 5 = .ok (.aload_n 0, 1) := by decide +kernel
theorem dX2_step_6 : decode cX2_step 6 = .ok (.getfield 77, 3) := by decide +kernel
theorem dX2_step_9 : decode cX2_step 9 = .ok (.iconst 4, 1) := by decide +kernel
theorem dX2_step_10 : decode cX2_step 10 = .ok (.iload_n 2, 1) := by decide +kernel
theorem dX2_step_11 : decode cX2_step 11 = .ok (.imul, 1) := by decide +kernel
theorem dX2_step_12 : decode cX2_step 12 = .ok (.iload_n 1, 1) := by decide +kernel
theorem dX2_step_13 : decode cX2_step 13 = .ok (.iconst 4, 1) := by decide +kernel
theorem dX2_step_14 : decode cX2_step 14 = .ok (.irem, 1) := by decide +kernel
theorem dX2_step_15 : decode cX2_step 15 = .ok (.iadd, 1) := by decide +kernel
theorem dX2_step_16 : decode cX2_step 16 = .ok (.iaload, 1) := by decide +kernel
theorem dX2_step_17 : decode cX2_step 17 = .ok (.istore_n 3, 1) := by decide +kernel
theorem dX2_step_18 : decode cX2_step 18 = .ok (.aload_n 0, 1) := by decide +kernel
theorem dX2_step_19 : decode cX2_step 19 = .ok (.getfield 105, 3) := by decide +kernel
theorem dX2_step_22 : decode cX2_step 22 = .ok (.iconst 0, 1) := by decide +kernel
theorem dX2_step_23 : decode cX2_step 23 = .ok (.iaload, 1) := by decide +kernel
theorem dX2_step_24 : decode cX2_step 24 = .ok (.aload_n 0, 1) := by decide +kernel
theorem dX2_step_25 : decode cX2_step 25 = .ok (.iload_n 2, 1) := by decide +kernel
theorem dX2_step_26 : decode cX2_step 26 = .ok (.invokevirtual 125, 3) := by decide +kernel
theorem dX2_step_29 : decode cX2_step 29 = .ok (.iadd, 1) := by decide +kernel
theorem dX2_step_30 : decode cX2_step 30 = .ok (.aload_n 0, 1) := by decide +kernel
theorem dX2_step_31 : decode cX2_step 31 = .ok (.getfield 71, 3) := by decide +kernel
theorem dX2_step_34 : decode cX2_step 34 = .ok (.iload_n 1, 1) := by decide +kernel
theorem dX2_step_35 : decode cX2_step 35 = .ok (.iaload, 1) := by decide +kernel
theorem dX2_step_36 : decode cX2_step 36 = .ok (.iadd, 1) := by decide +kernel
theorem dX2_step_37 : decode cX2_step 37 = .ok (.aload_n 0, 1) := by decide +kernel
theorem dX2_step_38 : decode cX2_step 38 = .ok (.aload_n 0, 1) := by decide +kernel
theorem dX2_step_39 : decode cX2_step 39 = .ok (.getfield 87, 3) := by decide +kernel
theorem dX2_step_42 : decode cX2_step 42 = .ok (.iload_n 2, 1) := by decide +kernel
theorem dX2_step_43 : decode cX2_step 43 = .ok (.iaload, 1) := by decide +kernel
theorem dX2_step_44 : decode cX2_step 44 = .ok (.iload_n 1, 1) := by decide +kernel
theorem dX2_step_45 : decode cX2_step 45 = .ok (.imul, 1) := by decide +kernel
theorem dX2_step_46 : decode cX2_step 46 = .ok (.aload_n 0, 1) := by decide +kernel
theorem dX2_step_47 : decode cX2_step 47 = .ok (.getfield 90, 3) := by decide +kernel
theorem dX2_step_50 : decode cX2_step 50 = .ok (.iload_n 2, 1) := by decide +kernel
theorem dX2_step_51 : decode cX2_step 51 = .ok (.iaload, 1) := by decide +kernel
theorem dX2_step_52 : decode cX2_step 52 = .ok (.iadd, 1) := by decide +kernel
theorem dX2_step_53 : decode cX2_step 53 = .ok (.bipush 16, 2) := by decide +kernel
theorem dX2_step_55 : decode cX2_step 55 = .ok (.irem, 1) := by decide +kernel
theorem dX2_step_56 : decode cX2_step 56 = .ok (.invokevirtual 129, 3) := by decide +kernel
theorem dX2_step_59 : decode cX2_step 59 = .ok (.iadd, 1) := by decide +kernel
theorem dX2_step_60 : decode cX2_step 60 = .ok (.istore 4, 2) := by decide +kernel
theorem dX2_step_62 : decode cX2_step 62 = .ok (.aload_n 0, 1) := by decide +kernel
theorem dX2_step_63 : decode cX2_step 63 = .ok (.getfield 105, 3) := by decide +kernel
theorem dX2_step_66 : decode cX2_step 66 = .ok (.iconst 0, 1) := by decide +kernel
theorem dX2_step_67 : decode cX2_step 67 = .ok (.aload_n 0, 1) := by decide +kernel
theorem dX2_step_68 : decode cX2_step 68 = .ok (.getfield 105, 3) := by decide +kernel
theorem dX2_step_71 : decode cX2_step 71 = .ok (.iconst 3, 1) := by decide +kernel
theorem dX2_step_72 : decode cX2_step 72 = .ok (.iaload, 1) := by decide +kernel
theorem dX2_step_73 : decode cX2_step 73 = .ok (.iastore, 1) := by decide +kernel
theorem dX2_step_74 : decode cX2_step 74 = .ok (.aload_n 0, 1) := by decide +kernel
theorem dX2_step_75 : decode cX2_step 75 = .ok (.getfield 105, 3) := by decide +kernel
theorem dX2_step_78 : decode cX2_step 78 = .ok (.iconst 3, 1) := by decide +kernel
theorem dX2_step_79 : decode cX2_step 79 = .ok (.aload_n 0, 1) := by decide +kernel
theorem dX2_step_80 : decode cX2_step 80 = .ok (.getfield 105, 3) := by decide +kernel
theorem dX2_step_83 : decode cX2_step 83 = .ok (.iconst 2, 1) := by decide +kernel
theorem dX2_step_84 : decode cX2_step 84 = .ok (.iaload, 1) := by decide +kernel
theorem dX2_step_85 : decode cX2_step 85 = .ok (.iastore, 1) := by decide +kernel
theorem dX2_step_86 : decode cX2_step 86 = .ok (.aload_n 0, 1) := by decide +kernel
theorem dX2_step_87 : decode cX2_step 87 = .ok (.getfield 105, 3) := by decide +kernel
theorem dX2_step_90 : decode cX2_step 90 = .ok (.iconst 2, 1) := by decide +kernel
theorem dX2_step_91 : decode cX2_step 91 = .ok (.aload_n 0, 1) := by decide +kernel
theorem dX2_step_92 : decode cX2_step 92 = .ok (.getfield 105, 3) := by decide +kernel
theorem dX2_step_95 : decode cX2_step 95 = .ok (.iconst 1, 1) := by decide +kernel
theorem dX2_step_96 : decode cX2_step 96 = .ok (.iaload, 1) := by decide +kernel
theorem dX2_step_97 : decode cX2_step 97 = .ok (.iastore, 1) := by decide +kernel
theorem dX2_step_98 : decode cX2_step 98 = .ok (.aload_n 0, 1) := by decide +kernel
theorem dX2_step_99 : decode cX2_step 99 = .ok (.getfield 105, 3) := by decide +kernel
theorem dX2_step_102 : decode cX2_step 102 = .ok (.iconst 1, 1) := by decide +kernel
theorem dX2_step_103 : decode cX2_step 103 = .ok (.aload_n 0, 1) := by decide +kernel
theorem dX2_step_104 : decode cX2_step 104 = .ok (.getfield 105, 3) := by decide +kernel
theorem dX2_step_107 : decode cX2_step 107 = .ok (.iconst 1, 1) := by decide +kernel
theorem dX2_step_108 : decode cX2_step 108 = .ok (.iaload, 1) := by decide +kernel
theorem dX2_step_109 : decode cX2_step 109 = .ok (.iload 4, 2) := by decide +kernel
theorem dX2_step_111 : decode cX2_step 111 = .ok (.iload_n 3, 1) := by decide +kernel
theorem dX2_step_112 : decode cX2_step 112 = .ok (.ishl, 1) := by decide +kernel
theorem dX2_step_113 : decode cX2_step 113 = .ok (.iload 4, 2) := by decide +kernel
theorem dX2_step_115 : decode cX2_step 115 = .ok (.bipush 32, 2) := by decide +kernel
theorem dX2_step_117 : decode cX2_step 117 = .ok (.iload_n 3, 1) := by decide +kernel
theorem dX2_step_118 : decode cX2_step 118 = .ok (.isub, 1) := by decide +kernel
theorem dX2_step_119 : decode cX2_step 119 = .ok (.iushr, 1) := by decide +kernel
theorem dX2_step_120 : decode cX2_step 120 = .ok (.ior, 1) := by decide +kernel
theorem dX2_step_121 : decode cX2_step 121 = .ok (.iadd, 1) := by decide +kernel
theorem dX2_step_122 : decode cX2_step 122 = .ok (.iastore, 1) := by decide +kernel
theorem dX2_step_123 : decode cX2_step 123 = .ok (.return_, 1) := by decide +kernel
theorem dX2_come_0 : decode cX2_come 0 = .ok (.aload_n 0, 1) := by decide +kernel
theorem dX2_come_1 : decode cX2_come 1 = .ok (.getfield 99, 3) := by decide +kernel
theorem dX2_come_4 : decode cX2_come 4 = .ok (.aload_n 0, 1) := by decide +kernel
theorem dX2_come_5 : decode cX2_come 5 = .ok (.getfield 114, 3) := by decide +kernel
theorem dX2_come_8 : decode cX2_come 8 = .ok (.bipush 64, 2) := by decide +kernel
theorem dX2_come_10 : decode cX2_come 10 = .ok (.irem, 1) := by decide +kernel
theorem dX2_come_11 : decode cX2_come 11 = .ok (.iload_n 1, 1) := by decide +kernel
theorem dX2_come_12 : decode cX2_come 12 = .ok (.sipush 255, 3) := by decide +kernel
theorem dX2_come_15 : decode cX2_come 15 = .ok (.iand, 1) := by decide +kernel
theorem dX2_come_16 : decode cX2_come 16 = .ok (.iastore, 1) := by decide +kernel
theorem dX2_come_17 : decode cX2_come 17 = .ok (.aload_n 0, 1) := by decide +kernel
theorem dX2_come_18 : decode cX2_come 18 = .ok (.dup, 1) := by decide +kernel
theorem dX2_come_19 : decode cX2_come 19 = .ok (.getfield 114, 3) := by decide +kernel
theorem dX2_come_22 : decode cX2_come 22 = .ok (.iconst 1, 1) := by decide +kernel
theorem dX2_come_23 : decode cX2_come 23 = .ok (.iadd, 1) := by decide +kernel
theorem dX2_come_24 : decode cX2_come 24 = .ok (.putfield 114, 3) := by decide +kernel
theorem dX2_come_27 : decode cX2_come 27 = .ok (.aload_n 0, 1) := by decide +kernel
theorem dX2_come_28 : decode cX2_come 28 = .ok (.getfield 114, 3) := by decide +kernel
theorem dX2_come_31 : decode cX2_come 31 = .ok (.bipush 64, 2) := by decide +kernel
theorem dX2_come_33 : decode cX2_come 33 = .ok (.irem, 1) := by decide +kernel
theorem dX2_come_34 : decode cX2_come 34 = .ok (.ifCond .le 4, 3) := by decide +kernel
theorem dX2_come_37 : decode cX2_come 37 = .ok (.return_, 1) := by decide +kernel
theorem dX2_come_38 : decode cX2_come 38 = .ok (.iconst 0, 1) := by decide +kernel
theorem dX2_come_39 : decode cX2_come 39 = .ok (.istore_n 2, 1) := by decide +kernel
theorem dX2_come_40 : decode cX2_come 40 = .ok (.iload_n 2, 1) := by decide +kernel
theorem dX2_come_41 : decode cX2_come 41 = .ok (.iconst 4, 1) := by decide +kernel
theorem dX2_come_42 : decode cX2_come 42 = .ok (.if_icmp .ge 21, 3) := by decide +kernel
theorem dX2_come_45 : decode cX2_come 45 = .ok (.aload_n 0, 1) := by decide +kernel
theorem dX2_come_46 : decode cX2_come 46 = .ok (.getfield 105, 3) := by decide +kernel
theorem dX2_come_49 : decode cX2_come 49 = .ok (.iload_n 2, 1) := by decide +kernel
theorem dX2_come_50 : decode cX2_come 50 = .ok (.aload_n 0, 1) := by decide +kernel
theorem dX2_come_51 : decode cX2_come 51 = .ok (.getfield 102, 3) := by decide +kernel
theorem dX2_come_54 : decode cX2_come 54 = .ok (.iload_n 2, 1) := by decide +kernel
theorem dX2_come_55 : decode cX2_come 55 = .ok (.iaload, 1) := by decide +kernel
theorem dX2_come_56 : decode cX2_come 56 = .ok (.iastore, 1) := by decide +kernel
theorem dX2_come_57 : decode cX2_come 57 = .ok (.iinc 2 1, 3) := by decide +kernel
theorem dX2_come_60 : decode cX2_come 60 = .ok (.goto (-20), 3) := by decide +kernel
theorem dX2_come_63 : decode cX2_come 63 = .ok (.iconst 0, 1) := by decide +kernel
theorem dX2_come_64 : decode cX2_come 64 = .ok (.istore_n 2, 1) := by decide +kernel
theorem dX2_come_65 : decode cX2_come 65 = .ok (.iload_n 2, 1) := by decide +kernel
theorem dX2_come_66 : decode cX2_come 66 = .ok (.bipush 64, 2) := by decide +kernel
theorem dX2_come_68 : decode cX2_come 68 = .ok (.if_icmp .ge 14, 3) := by decide +kernel
theorem dX2_come_71 : decode cX2_come 71 = .ok (.aload_n 0, 1) := by decide +kernel
theorem dX2_come_72 : decode cX2_come 72 = .ok (.iload_n 2, 1) := by decide +kernel
theorem dX2_come_73 : decode cX2_come 73 = .ok (.invokevirtual 132, 3) := by decide +kernel
theorem dX2_come_76 : decode cX2_come 76 = .ok (.iinc 2 1, 3) := by decide +kernel
theorem dX2_come_79 : decode cX2_come 79 = .ok (.goto (-14), 3) := by decide +kernel
theorem dX2_come_82 : decode cX2_come 82 = .ok (.iconst 0, 1) := by decide +kernel
theorem dX2_come_83 : decode cX2_come 83 = .ok (.istore_n 2, 1) := by decide +kernel
theorem dX2_come_84 : decode cX2_come 84 = .ok (.iload_n 2, 1) := by decide +kernel
theorem dX2_come_85 : decode cX2_come 85 = .ok (.iconst 4, 1) := by decide +kernel
theorem dX2_come_86 : decode cX2_come 86 = .ok (.if_icmp .ge 24, 3) := by decide +kernel
theorem dX2_come_89 : decode cX2_come 89 = .ok (.aload_n 0, 1) := by decide +kernel
theorem dX2_come_90 : decode cX2_come 90 = .ok (.getfield 102, 3) := by decide +kernel
theorem dX2_come_93 : decode cX2_come 93 = .ok (.iload_n 2, 1) := by decide +kernel
theorem dX2_come_94 : decode cX2_come 94 = .ok (.dup2, 1) := by decide +kernel
theorem dX2_come_95 : decode cX2_come 95 = .ok (.iaload, 1) := by decide +kernel
theorem dX2_come_96 : decode cX2_come 96 = .ok (.aload_n 0, 1) := by decide +kernel
theorem dX2_come_97 : decode cX2_come 97 = .ok (.getfield 105, 3) := by decide +kernel
theorem dX2_come_100 : decode cX2_come 100 = .ok (.iload_n 2, 1) := by decide +kernel
theorem dX2_come_101 : decode cX2_come 101 = .ok (.iaload, 1) := by decide +kernel
theorem dX2_come_102 : decode cX2_come 102 = .ok (.iadd, 1) := by decide +kernel
theorem dX2_come_103 : decode cX2_come 103 = .ok (.iastore, 1) := by decide +kernel
theorem dX2_come_104 : decode cX2_come 104 = .ok (.iinc 2 1, 3) := by decide +kernel
theorem dX2_come_107 : decode cX2_come 107 = .ok (.goto (-23), 3) := by decide +kernel
theorem dX2_come_110 : decode cX2_come 110 = .ok (.return_, 1) := by decide +kernel
theorem dX2_add_0 : decode cX2_add 0 = .ok (.iconst 0, 1) := by decide +kernel
theorem dX2_add_1 : decode cX2_add 1 = .ok (.istore_n 1, 1) := by decide +kernel
theorem dX2_add_2 : decode cX2_add 2 = .ok (.iload_n 1, 1) := by decide +kernel
theorem dX2_add_3 : decode cX2_add 3 = .ok (.aload_n 0, 1) := by decide +kernel
theorem dX2_add_4 : decode cX2_add 4 = .ok (.getfield 118, 3) := by decide +kernel
theorem dX2_add_7 : decode cX2_add 7 = .ok (.if_icmp .ge 19, 3) := by decide +kernel
theorem dX2_add_10 : decode cX2_add 10 = .ok (.aload_n 0, 1) := by decide +kernel
theorem dX2_add_11 : decode cX2_add 11 = .ok (.aload_n 0, 1) := by decide +kernel
theorem dX2_add_12 : decode cX2_add 12 = .ok (.getfield 93, 3) := by decide +kernel
theorem dX2_add_15 : decode cX2_add 15 = .ok (.iload_n 1, 1) := by decide +kernel
theorem dX2_add_16 : decode cX2_add 16 = .ok (.iaload, 1) := by decide +kernel
theorem dX2_add_17 : decode cX2_add 17 = .ok (.invokevirtual 135, 3) := by decide +kernel
theorem dX2_add_20 : decode cX2_add 20 = .ok (.iinc 1 1, 3) := by decide +kernel
theorem dX2_add_23 : decode cX2_add 23 = .ok (.goto (-21), 3) := by decide +kernel
theorem dX2_add_26 : decode cX2_add 26 = .ok (.aload_n 0, 1) := by decide +kernel
theorem dX2_add_27 : decode cX2_add 27 = .ok (.iconst 0, 1) := by decide +kernel
theorem dX2_add_28 : decode cX2_add 28 = .ok (.putfield 118, 3) := by decide +kernel
theorem dX2_add_31 : decode cX2_add 31 = .ok (.aload_n 0, 1) := by decide +kernel
theorem dX2_add_32 : decode cX2_add 32 = .ok (.getfield 114, 3) := by decide +kernel
theorem dX2_add_35 : decode cX2_add 35 = .ok (.ireturn, 1) := by decide +kernel
theorem dX2_fill_0 : decode cX2_fill 0 = .ok (.iload_n 1, 1) := by decide +kernel
theorem dX2_fill_1 : decode cX2_fill 1 = .ok (.ifCond .lt 10, 3) := by decide +kernel
theorem dX2_fill_4 : decode cX2_fill 4 = .ok (.iload_n 1, 1) := by decide +kernel
theorem dX2_fill_5 : decode cX2_fill 5 = .ok (.sipush 4000, 3) := by decide +kernel
theorem dX2_fill_8 : decode cX2_fill 8 = .ok (.if_icmp .le 5, 3) := by decide +kernel
theorem dX2_fill_11 : decode cX2_fill 11 = .ok (.iconst (-1), 1) := by decide +kernel
theorem dX2_fill_12 : decode cX2_fill 12 = .ok (.ireturn, 1) := by decide +kernel
theorem dX2_fill_13 : decode cX2_fill 13 = .ok (.iconst 0, 1) := by decide +kernel
theorem dX2_fill_14 : decode cX2_fill 14 = .ok (.istore_n 3, 1) := by decide +kernel
theorem dX2_fill_15 : decode cX2_fill 15 = .ok (.iload_n 3, 1) := by decide +kernel
theorem dX2_fill_16 : decode cX2_fill 16 = .ok (.iload_n 1, 1) := by decide +kernel
theorem dX2_fill_17 : decode cX2_fill 17 = .ok (.if_icmp .ge 18, 3) := by decide +kernel
theorem dX2_fill_20 : decode cX2_fill 20 = .ok (.aload_n 0, 1) := by decide +kernel
theorem dX2_fill_21 : decode cX2_fill 21 = .ok (.iload_n 2, 1) := by decide +kernel
theorem dX2_fill_22 : decode cX2_fill 22 = .ok (.iconst 3, 1) := by decide +kernel
theorem dX2_fill_23 : decode cX2_fill 23 = .ok (.iload_n 3, 1) := by decide +kernel
theorem dX2_fill_24 : decode cX2_fill 24 = .ok (.imul, 1) := by decide +kernel
theorem dX2_fill_25 : decode cX2_fill 25 = .ok (.iadd, 1) := by decide +kernel
theorem dX2_fill_26 : decode cX2_fill 26 = .ok (.invokevirtual 135, 3) := by decide +kernel
theorem dX2_fill_29 : decode cX2_fill 29 = .ok (.iinc 3 1, 3) := by decide +kernel
theorem dX2_fill_32 : decode cX2_fill 32 = .ok (.goto (-17), 3) := by decide +kernel
theorem dX2_fill_35 : decode cX2_fill 35 = .ok (.aload_n 0, 1) := by decide +kernel
theorem dX2_fill_36 : decode cX2_fill 36 = .ok (.getfield 114, 3) := by decide +kernel
theorem dX2_fill_39 : decode cX2_fill 39 = .ok (.ireturn, 1) := by decide +kernel
theorem dX2_key_0 : decode cX2_key 0 = .ok (.aload_n 0, 1) := by decide +kernel
theorem dX2_key_1 : decode cX2_key 1 = .ok (.getfield 118, 3) := by decide +kernel
theorem dX2_key_4 : decode cX2_key 4 = .ok (.istore_n 1, 1) := by decide +kernel
theorem dX2_key_5 : decode cX2_key 5 = .ok (.aload_n 0, 1) := by decide +kernel
theorem dX2_key_6 : decode cX2_key 6 = .ok (.iconst 0, 1) := by decide +kernel
theorem dX2_key_7 : decode cX2_key 7 = .ok (.putfield 118, 3) := by decide +kernel
theorem dX2_key_10 : decode cX2_key 10 = .ok (.iload_n 1, 1) := by decide +kernel
theorem dX2_key_11 : decode cX2_key 11 = .ok (.bipush 16, 2) := by decide +kernel
theorem dX2_key_13 : decode cX2_key 13 = .ok (.if_icmp .le 5, 3) := by decide +kernel
theorem dX2_key_16 : decode cX2_key 16 = .ok (.iconst (-1), 1) := by decide +kernel
theorem dX2_key_17 : decode cX2_key 17 = .ok (.ireturn, 1) := by decide +kernel
theorem dX2_key_18 : decode cX2_key 18 = .ok (.iconst 0, 1) := by decide +kernel
theorem dX2_key_19 : decode cX2_key 19 = .ok (.istore_n 2, 1) := by decide +kernel
theorem dX2_key_20 : decode cX2_key 20 = .ok (.iload_n 2, 1) := by decide +kernel
theorem dX2_key_21 : decode cX2_key 21 = .ok (.bipush 16, 2) := by decide +kernel
theorem dX2_key_23 : decode cX2_key 23 = .ok (.if_icmp .ge 30, 3) := by decide +kernel
theorem dX2_key_26 : decode cX2_key 26 = .ok (.aload_n 0, 1) := by decide +kernel
theorem dX2_key_27 : decode cX2_key 27 = .ok (.getfield 96, 3) := by decide +kernel
theorem dX2_key_30 : decode cX2_key 30 = .ok (.iload_n 2, 1) := by decide +kernel
theorem dX2_key_31 : decode cX2_key 31 = .ok (.iload_n 2, 1) := by decide +kernel
theorem dX2_key_32 : decode cX2_key 32 = .ok (.iload_n 1, 1) := by decide +kernel
theorem dX2_key_33 : decode cX2_key 33 = .ok (.if_icmp .ge 12, 3) := by decide +kernel
theorem dX2_key_36 : decode cX2_key 36 = .ok (.aload_n 0, 1) := by decide +kernel
theorem dX2_key_37 : decode cX2_key 37 = .ok (.getfield 93, 3) := by decide +kernel
theorem dX2_key_40 : decode cX2_key 40 = .ok (.iload_n 2, 1) := by decide +kernel
theorem dX2_key_41 : decode cX2_key 41 = .ok (.iaload, 1) := by decide +kernel
theorem dX2_key_42 : decode cX2_key 42 = .ok (.goto 4, 3) := by decide +kernel
theorem dX2_key_45 : decode cX2_key 45 = .ok (.iconst 0, 1) := by decide +kernel
theorem dX2_key_46 : decode cX2_key 46 = .ok (.iastore, 1) := by decide +kernel
theorem dX2_key_47 : decode cX2_key 47 = .ok (.iinc 2 1, 3) := by decide +kernel
theorem dX2_key_50 : decode cX2_key 50 = .ok (.goto (-30), 3) := by decide +kernel
theorem dX2_key_53 : decode cX2_key 53 = .ok (.iload_n 1, 1) := by decide +kernel
theorem dX2_key_54 : decode cX2_key 54 = .ok (.ireturn, 1) := by decide +kernel
theorem dX2_sum_0 : decode cX2_sum 0 = .ok (.aload_n 0, 1) := by decide +kernel
theorem dX2_sum_1 : decode cX2_sum 1 = .ok (.getfield 114, 3) := by decide +kernel
theorem dX2_sum_4 : decode cX2_sum 4 = .ok (.istore_n 2, 1) := by decide +kernel
theorem dX2_sum_5 : decode cX2_sum 5 = .ok (.iconst 0, 1) := by decide +kernel
theorem dX2_sum_6 : decode cX2_sum 6 = .ok (.istore_n 3, 1) := by decide +kernel
theorem dX2_sum_7 : decode cX2_sum 7 = .ok (.iload_n 3, 1) := by decide +kernel
theorem dX2_sum_8 : decode cX2_sum 8 = .ok (.bipush 16, 2) := by decide +kernel
theorem dX2_sum_10 : decode cX2_sum 10 = .ok (.if_icmp .ge 23, 3) := by decide +kernel
theorem dX2_sum_13 : decode cX2_sum 13 = .ok (.iload_n 1, 1) := by decide +kernel
theorem dX2_sum_14 : decode cX2_sum 14 = .ok (.ifCond .eq 19, 3) := by decide +kernel
theorem dX2_sum_17 : decode cX2_sum 17 = .ok (.aload_n 0, 1) := by decide +kernel
theorem dX2_sum_18 : decode cX2_sum 18 = .ok (.aload_n 0, 1) := by decide +kernel
theorem dX2_sum_19 : decode cX2_sum 19 = .ok (.getfield 96, 3) := by decide +kernel
theorem dX2_sum_22 : decode cX2_sum 22 = .ok (.iload_n 3, 1) := by decide +kernel
theorem dX2_sum_23 : decode cX2_sum 23 = .ok (.iaload, 1) := by decide +kernel
theorem dX2_sum_24 : decode cX2_sum 24 = .ok (.invokevirtual 135, 3) := by decide +kernel
theorem dX2_sum_27 : decode cX2_sum 27 = .ok (.iinc 3 1, 3) := by decide +kernel
theorem dX2_sum_30 : decode cX2_sum 30 = .ok (.goto (-23), 3) := by decide +kernel
theorem dX2_sum_33 : decode cX2_sum 33 = .ok (.ldc2_w 138, 3) := by decide +kernel
theorem dX2_sum_36 : decode cX2_sum 36 = .ok (.aload_n 0, 1) := by decide +kernel
theorem dX2_sum_37 : decode cX2_sum 37 = .ok (.getfield 114, 3) := by decide +kernel
theorem dX2_sum_40 : decode cX2_sum 40 = .ok (.i2l, 1) := by decide +kernel
theorem dX2_sum_41 : decode cX2_sum 41 = .ok (.lmul, 1) := by decide +kernel
theorem dX2_sum_42 : decode cX2_sum 42 = .ok (.lstore_n 3, 1) := by decide +kernel
theorem dX2_sum_43 : decode cX2_sum 43 = .ok (.aload_n 0, 1) := by decide +kernel
theorem dX2_sum_44 : decode cX2_sum 44 = .ok (.sipush 128, 3) := by decide +kernel
theorem dX2_sum_47 : decode cX2_sum 47 = .ok (.invokevirtual 135, 3) := by decide +kernel
theorem dX2_sum_50 : decode cX2_sum 50 = .ok (.aload_n 0, 1) := by decide +kernel
theorem dX2_sum_51 : decode cX2_sum 51 = .ok (.getfield 114, 3) := by decide +kernel
theorem dX2_sum_54 : decode cX2_sum 54 = .ok (.bipush 64, 2) := by decide +kernel
theorem dX2_sum_56 : decode cX2_sum 56 = .ok (.irem, 1) := by decide +kernel
theorem dX2_sum_57 : decode cX2_sum 57 = .ok (.bipush 56, 2) := by decide +kernel
theorem dX2_sum_59 : decode cX2_sum 59 = .ok (.if_icmp .eq 11, 3) := by decide +kernel
theorem dX2_sum_62 : decode cX2_sum 62 = .ok (.aload_n 0, 1) := by decide +kernel
theorem dX2_sum_63 : decode cX2_sum 63 = .ok (.iconst 0, 1) := by decide +kernel
theorem dX2_sum_64 : decode cX2_sum 64 = .ok (.invokevirtual 135, 3) := by decide +kernel
theorem dX2_sum_67 : decode cX2_sum 67 = .ok (.goto (-17), 3) := by decide +kernel
theorem dX2_sum_70 : decode cX2_sum 70 = .ok (.iconst 0, 1) := by decide +kernel
theorem dX2_sum_71 : decode cX2_sum 71 = .ok (.istore 5, 2) := by decide +kernel
theorem dX2_sum_73 : decode cX2_sum 73 = .ok (.iload 5, 2) := by decide +kernel
theorem dX2_sum_75 : decode cX2_sum 75 = .ok (.bipush 8, 2) := by decide +kernel
theorem dX2_sum_77 : decode cX2_sum 77 = .ok (.if_icmp .ge 25, 3) := by decide +kernel
theorem dX2_sum_80 : decode cX2_sum 80 = .ok (.aload_n 0, 1) := by decide +kernel
theorem dX2_sum_81 : decode cX2_sum 81 = .ok (.lload_n 3, 1) := by decide +kernel
theorem dX2_sum_82 : decode cX2_sum 82 = .ok (.bipush 8, 2) := by decide +kernel
theorem dX2_sum_84 : decode cX2_sum 84 = .ok (.iload 5, 2) := by decide +kernel
theorem dX2_sum_86 : decode cX2_sum 86 = .ok (.imul, 1) := by decide +kernel
theorem dX2_sum_87 : decode cX2_sum 87 = .ok (.lshr, 1) := by decide +kernel
theorem dX2_sum_88 : decode cX2_sum 88 = .ok (.l2i, 1) := by decide +kernel
theorem dX2_sum_89 : decode cX2_sum 89 = .ok (.sipush 255, 3) := by decide +kernel
theorem dX2_sum_92 : decode cX2_sum 92 = .ok (.iand, 1) := by decide +kernel
theorem dX2_sum_93 : decode cX2_sum 93 = .ok (.invokevirtual 135, 3) := by decide +kernel
theorem dX2_sum_96 : decode cX2_sum 96 = .ok (.iinc 5 1, 3) := by decide +kernel
theorem dX2_sum_99 : decode cX2_sum 99 = .ok (.goto (-26), 3) := by decide +kernel
theorem dX2_sum_102 : decode cX2_sum 102 = .ok (.iconst 0, 1) := by decide +kernel
theorem dX2_sum_103 : decode cX2_sum 103 = .ok (.istore 5, 2) := by decide +kernel
theorem dX2_sum_105 : decode cX2_sum 105 = .ok (.iload 5, 2) := by decide +kernel
theorem dX2_sum_107 : decode cX2_sum 107 = .ok (.bipush 16, 2) := by decide +kernel
theorem dX2_sum_109 : decode cX2_sum 109 = .ok (.if_icmp .ge 37, 3) := by decide +kernel
theorem dX2_sum_112 : decode cX2_sum 112 = .ok (.aload_n 0, 1) := by decide +kernel
theorem dX2_sum_113 : decode cX2_sum 113 = .ok (.getfield 108, 3) := by decide +kernel
theorem dX2_sum_116 : decode cX2_sum 116 = .ok (.iload 5, 2) := by decide +kernel
theorem dX2_sum_118 : decode cX2_sum 118 = .ok (.aload_n 0, 1) := by decide +kernel
theorem dX2_sum_119 : decode cX2_sum 119 = .ok (.getfield 102, 3) := by decide +kernel
theorem dX2_sum_122 : decode cX2_sum 122 = .ok (.iload 5, 2) := by decide +kernel
theorem dX2_sum_124 : decode cX2_sum 124 = .ok (.iconst 4, 1) := by decide +kernel
theorem dX2_sum_125 : decode cX2_sum 125 = .ok (.idiv, 1) := by decide +kernel
theorem dX2_sum_126 : decode cX2_sum 126 = .ok (.iaload, 1) := by decide +kernel
theorem dX2_sum_127 : decode cX2_sum 127 = .ok (.bipush 8, 2) := by decide +kernel
theorem dX2_sum_129 : decode cX2_sum 129 = .ok (.iload 5, 2) := by decide +kernel
theorem dX2_sum_131 : decode cX2_sum 131 = .ok (.iconst 4, 1) := by decide +kernel
theorem dX2_sum_132 : decode cX2_sum 132 = .ok (.irem, 1) := by decide +kernel
theorem dX2_sum_133 : decode cX2_sum 133 = .ok (.imul, 1) := by decide +kernel
theorem dX2_sum_134 : decode cX2_sum 134 = .ok (.ishr, 1) := by decide +kernel
theorem dX2_sum_135 : decode cX2_sum 135 = .ok (.sipush 255, 3) := by decide +kernel
theorem dX2_sum_138 : decode cX2_sum 138 = .ok (.iand, 1) := by decide +kernel
theorem dX2_sum_139 : decode cX2_sum 139 = .ok (.iastore, 1) := by decide +kernel
theorem dX2_sum_140 : decode cX2_sum 140 = .ok (.iinc 5 1, 3) := by decide +kernel
theorem dX2_sum_143 : decode cX2_sum 143 = .ok (.goto (-38), 3) := by decide +kernel
theorem dX2_sum_146 : decode cX2_sum 146 = .ok (.aload_n 0, 1) := by decide +kernel
theorem dX2_sum_147 : decode cX2_sum 147 = .ok (.iconst 1, 1) := by decide +kernel
theorem dX2_sum_148 : decode cX2_sum 148 = .ok (.putfield 140, 3) := by decide +kernel
theorem dX2_sum_151 : decode cX2_sum 151 = .ok (.aload_n 0, 1) := by decide +kernel
theorem dX2_sum_152 : decode cX2_sum 152 = .ok (.invokevirtual 111, 3) := by decide +kernel
theorem dX2_sum_155 : decode cX2_sum 155 = .ok (.iload_n 2, 1) := by decide +kernel
theorem dX2_sum_156 : decode cX2_sum 156 = .ok (.ireturn, 1) := by decide +kernel
theorem dX2_sumAt_0 : decode cX2_sumAt 0 = .ok (.aload_n 0, 1) := by decide +kernel
theorem dX2_sumAt_1 : decode cX2_sumAt 1 = .ok (.getfield 140, 3) := by decide +kernel
theorem dX2_sumAt_4 : decode cX2_sumAt 4 = .ok (.ifCond .eq 22, 3) := by decide +kernel
theorem dX2_sumAt_7 : decode cX2_sumAt 7 = .ok (.iload_n 1, 1) := by decide +kernel
theorem dX2_sumAt_8 : decode cX2_sumAt 8 = .ok (.ifCond .lt 18, 3) := by decide +kernel
theorem dX2_sumAt_11 : decode cX2_sumAt 11 = .ok (.iload_n 1, 1) := by decide +kernel
theorem dX2_sumAt_12 : decode cX2_sumAt 12 = .ok (.bipush 16, 2) := by decide +kernel
theorem dX2_sumAt_14 : decode cX2_sumAt 14 = .ok (.if_icmp .ge 12, 3) := by decide +kernel
theorem dX2_sumAt_17 : decode cX2_sumAt 17 = .ok (.aload_n 0, 1) := by decide +kernel
theorem dX2_sumAt_18 : decode cX2_sumAt 18 = .ok (.getfield 108, 3) := by decide +kernel
theorem dX2_sumAt_21 : decode cX2_sumAt 21 = .ok (.iload_n 1, 1) := by decide +kernel
theorem dX2_sumAt_22 : decode cX2_sumAt 22 = .ok (.iaload, 1) := by decide +kernel
theorem dX2_sumAt_23 : decode cX2_sumAt 23 = .ok (.goto 4, 3) := by decide +kernel
theorem dX2_sumAt_26 : decode cX2_sumAt 26 = .ok (.iconst (-1), 1) := by decide +kernel
theorem dX2_sumAt_27 : decode cX2_sumAt 27 = .ok (.ireturn, 1) := by decide +kernel
end
section
theorem dX2_init_0 : decode cX2_init 0 = .ok (.aload_n 0, 1) := by decide +kernel
theorem dX2_init_1 : decode cX2_init 1 = .ok (.invokespecial 1, 3) := by decide +kernel
theorem dX2_init_4 : decode cX2_init 4 = .ok (.aload_n 0, 1) := by decide +kernel
theorem dX2_init_5 : decode cX2_init 5 = .ok (.bipush 64, 2) := by decide +kernel
theorem dX2_init_7 : decode cX2_init 7 = .ok (.newarray .int, 2) := by decide +kernel
theorem dX2_init_9 : decode cX2_init 9 = .ok (.dup, 1) := by decide +kernel
theorem dX2_init_10 : decode cX2_init 10 = .ok (.iconst 0, 1) := by decide +kernel
theorem dX2_init_11 : decode cX2_init 11 = .ok (.ldc 7, 2) := by decide +kernel
theorem dX2_init_13 : decode cX2_init 13 = .ok (.iastore, 1) := by decide +kernel
theorem dX2_init_14 : decode cX2_init 14 = .ok (.dup, 1) := by decide +kernel
theorem dX2_init_15 : decode cX2_init 15 = .ok (.iconst 1, 1) := by decide +kernel
theorem dX2_init_16 : decode cX2_init 16 = .ok (.ldc 8, 2) := by decide +kernel
theorem dX2_init_18 : decode cX2_init 18 = .ok (.iastore, 1) := by decide +kernel
theorem dX2_init_19 : decode cX2_init 19 = .ok (.dup, 1) := by decide +kernel
theorem dX2_init_20 : decode cX2_init 20 = .ok (.iconst 2, 1) := by decide +kernel
theorem dX2_init_21 : decode cX2_init 21 = .ok (.ldc 9, 2) := by decide +kernel
theorem dX2_init_23 : decode cX2_init 23 = .ok (.iastore, 1) := by decide +kernel
theorem dX2_init_24 : decode cX2_init 24 = .ok (.dup, 1) := by decide +kernel
theorem dX2_init_25 : decode cX2_init 25 = .ok (.iconst 3, 1) := by decide +kernel
theorem dX2_init_26 : decode cX2_init 26 = .ok (.ldc 10, 2) := by decide +kernel
theorem dX2_init_28 : decode cX2_init 28 = .ok (.iastore, 1) := by decide +kernel
theorem dX2_init_29 : decode cX2_init 29 = .ok (.dup, 1) := by decide +kernel
theorem dX2_init_30 : decode cX2_init 30 = .ok (.iconst 4, 1) := by decide +kernel
theorem dX2_init_31 : decode cX2_init 31 = .ok (.ldc 11, 2) := by decide +kernel
theorem dX2_init_33 : decode cX2_init 33 = .ok (.iastore, 1) := by decide +kernel
theorem dX2_init_34 : decode cX2_init 34 = .ok (.dup, 1) := by decide +kernel
theorem dX2_init_35 : decode cX2_init 35 = .ok (.iconst 5, 1) := by decide +kernel
theorem dX2_init_36 : decode cX2_init 36 = .ok (.ldc 12, 2) := by decide +kernel
theorem dX2_init_38 : decode cX2_init 38 = .ok (.iastore, 1) := by decide +kernel
theorem dX2_init_39 : decode cX2_init 39 = .ok (.dup, 1) := by decide +kernel
theorem dX2_init_40 : decode cX2_init 40 = .ok (.bipush 6, 2) := by decide +kernel
theorem dX2_init_42 : decode cX2_init 42 = .ok (.ldc 13, 2) := by decide +kernel
theorem dX2_init_44 : decode cX2_init 44 = .ok (.iastore, 1) := by decide +kernel
theorem dX2_init_45 : decode cX2_init 45 = .ok (.dup, 1) := by decide +kernel
theorem dX2_init_46 : decode cX2_init 46 = .ok (.bipush 7, 2) := by decide +kernel
theorem dX2_init_48 : decode cX2_init 48 = .ok (.ldc 14, 2) := by decide +kernel
theorem dX2_init_50 : decode cX2_init 50 = .ok (.iastore, 1) := by decide +kernel
theorem dX2_init_51 : decode cX2_init 51 = .ok (.dup, 1) := by decide +kernel
theorem dX2_init_52 : decode cX2_init 52 = .ok (.bipush 8, 2) := by decide +kernel
theorem dX2_init_54 : decode cX2_init 54 = .ok (.ldc 15, 2) := by decide +kernel
theorem dX2_init_56 : decode cX2_init 56 = .ok (.iastore, 1) := by decide +kernel
theorem dX2_init_57 : decode cX2_init 57 = .ok (.dup, 1) := by decide +kernel
theorem dX2_init_58 : decode cX2_init 58 = .ok (.bipush 9, 2) := by decide +kernel
theorem dX2_init_60 : decode cX2_init 60 = .ok (.ldc 16, 2) := by decide +kernel
theorem dX2_init_62 : decode cX2_init 62 = .ok (.iastore, 1) := by decide +kernel
theorem dX2_init_63 : decode cX2_init 63 = .ok (.dup, 1) := by decide +kernel
theorem dX2_init_64 : decode cX2_init 64 = .ok (.bipush 10, 2) := by decide +kernel
theorem dX2_init_66 : decode cX2_init 66 = .ok (.ldc 17, 2) := by decide +kernel
theorem dX2_init_68 : decode cX2_init 68 = .ok (.iastore, 1) := by decide +kernel
theorem dX2_init_69 : decode cX2_init 69 = .ok (.dup, 1) := by decide +kernel
theorem dX2_init_70 : decode cX2_init 70 = .ok (.bipush 11, 2) := by decide +kernel
theorem dX2_init_72 : decode cX2_init 72 = .ok (.ldc 18, 2) := by decide +kernel
theorem dX2_init_74 : decode cX2_init 74 = .ok (.iastore, 1) := by decide +kernel
theorem dX2_init_75 : decode cX2_init 75 = .ok (.dup, 1) := by decide +kernel
theorem dX2_init_76 : decode cX2_init 76 = .ok (.bipush 12, 2) := by decide +kernel
theorem dX2_init_78 : decode cX2_init 78 = .ok (.ldc 19, 2) := by decide +kernel
theorem dX2_init_80 : decode cX2_init 80 = .ok (.iastore, 1) := by decide +kernel
theorem dX2_init_81 : decode cX2_init 81 = .ok (.dup, 1) := by decide +kernel
theorem dX2_init_82 : decode cX2_init 82 = .ok (.bipush 13, 2) := by decide +kernel
theorem dX2_init_84 : decode cX2_init 84 = .ok (.ldc 20, 2) := by decide +kernel
theorem dX2_init_86 : decode cX2_init 86 = .ok (.iastore, 1) := by decide +kernel
theorem dX2_init_87 : decode cX2_init 87 = .ok (.dup, 1) := by decide +kernel
theorem dX2_init_88 : decode cX2_init 88 = .ok (.bipush 14, 2) := by decide +kernel
theorem dX2_init_90 : decode cX2_init 90 = .ok (.ldc 21, 2) := by decide +kernel
theorem dX2_init_92 : decode cX2_init 92 = .ok (.iastore, 1) := by decide +kernel
theorem dX2_init_93 : decode cX2_init 93 = .ok (.dup, 1) := by decide +kernel
theorem dX2_init_94 : decode cX2_init 94 = .ok (.bipush 15, 2) := by decide +kernel
theorem dX2_init_96 : decode cX2_init 96 = .ok (.ldc 22, 2) := by decide +kernel
theorem dX2_init_98 : decode cX2_init 98 = .ok (.iastore, 1) := by decide +kernel
theorem dX2_init_99 : decode cX2_init 99 = .ok (.dup, 1) := by decide +kernel
theorem dX2_init_100 : decode cX2_init 100 = .ok (.bipush 16, 2) := by decide +kernel
theorem dX2_init_102 : decode cX2_init 102 = .ok (.ldc 23, 2) := by decide +kernel
theorem dX2_init_104 : decode cX2_init 104 = .ok (.iastore, 1) := by decide +kernel
theorem dX2_init_105 : decode cX2_init 105 = .ok (.dup, 1) := by decide +kernel
theorem dX2_init_106 : decode cX2_init 106 = .ok (.bipush 17, 2) := by decide +kernel
theorem dX2_init_108 : decode cX2_init 108 = .ok (.ldc 24, 2) := by decide +kernel
theorem dX2_init_110 : decode cX2_init 110 = .ok (.iastore, 1) := by decide +kernel
theorem dX2_init_111 : decode cX2_init 111 = .ok (.dup, 1) := by decide +kernel
theorem dX2_init_112 : decode cX2_init 112 = .ok (.bipush 18, 2) := by decide +kernel
theorem dX2_init_114 : decode cX2_init 114 = .ok (.ldc 25, 2) := by decide +kernel
theorem dX2_init_116 : decode cX2_init 116 = .ok (.iastore, 1) := by decide +kernel
theorem dX2_init_117 : decode cX2_init 117 = .ok (.dup, 1) := by decide +kernel
theorem dX2_init_118 : decode cX2_init 118 = .ok (.bipush 19, 2) := by decide +kernel
theorem dX2_init_120 : decode cX2_init 120 = .ok (.ldc 26, 2) := by decide +kernel
theorem dX2_init_122 : decode cX2_init 122 = .ok (.iastore, 1) := by decide +kernel
theorem dX2_init_123 : decode cX2_init 123 = .ok (.dup, 1) := by decide +kernel
theorem dX2_init_124 : decode cX2_init 124 = .ok (.bipush 20, 2) := by decide +kernel
theorem dX2_init_126 : decode cX2_init 126 = .ok (.ldc 27, 2) := by decide +kernel
theorem dX2_init_128 : decode cX2_init 128 = .ok (.iastore, 1) := by decide +kernel
theorem dX2_init_129 : decode cX2_init 129 = .ok (.dup, 1) := by decide +kernel
theorem dX2_init_130 : decode cX2_init 130 = .ok (.bipush 21, 2) := by decide +kernel
theorem dX2_init_132 : decode cX2_init 132 = .ok (.ldc 28, 2) := by decide +kernel
theorem dX2_init_134 : decode cX2_init 134 = .ok (.iastore, 1) := by decide +kernel
theorem dX2_init_135 : decode cX2_init 135 = .ok (.dup, 1) := by decide +kernel
theorem dX2_init_136 : decode cX2_init 136 = .ok (.bipush 22, 2) := by decide +kernel
theorem dX2_init_138 : decode cX2_init 138 = .ok (.ldc 29, 2) := by decide +kernel
theorem dX2_init_140 : decode cX2_init 140 = .ok (.iastore, 1) := by decide +kernel
theorem dX2_init_141 : decode cX2_init 141 = .ok (.dup, 1) := by decide +kernel
theorem dX2_init_142 : decode cX2_init 142 = .ok (.bipush 23, 2) := by decide +kernel
theorem dX2_init_144 : decode cX2_init 144 = .ok (.ldc 30, 2) := by decide +kernel
theorem dX2_init_146 : decode cX2_init 146 = .ok (.iastore, 1) := by decide +kernel
theorem dX2_init_147 : decode cX2_init 147 = .ok (.dup, 1) := by decide +kernel
theorem dX2_init_148 : decode cX2_init 148 = .ok (.bipush 24, 2) := by decide +kernel
theorem dX2_init_150 : decode cX2_init 150 = .ok (.ldc 31, 2) := by decide +kernel
theorem dX2_init_152 : decode cX2_init 152 = .ok (.iastore, 1) := by decide +kernel
theorem dX2_init_153 : decode cX2_init 153 = .ok (.dup, 1) := by decide +kernel
theorem dX2_init_154 : decode cX2_init 154 = .ok (.bipush 25, 2) := by decide +kernel
theorem dX2_init_156 : decode cX2_init 156 = .ok (.ldc 32, 2) := by decide +kernel
theorem dX2_init_158 : decode cX2_init 158 = .ok (.iastore, 1) := by decide +kernel
theorem dX2_init_159 : decode cX2_init 159 = .ok (.dup, 1) := by decide +kernel
theorem dX2_init_160 : decode cX2_init 160 = .ok (.bipush 26, 2) := by decide +kernel
theorem dX2_init_162 : decode cX2_init 162 = .ok (.ldc 33, 2) := by decide +kernel
theorem dX2_init_164 : decode cX2_init 164 = .ok (.iastore, 1) := by decide +kernel
theorem dX2_init_165 : decode cX2_init 165 = .ok (.dup, 1) := by decide +kernel
theorem dX2_init_166 : decode cX2_init 166 = .ok (.bipush 27, 2) := by decide +kernel
theorem dX2_init_168 : decode cX2_init 168 = .ok (.ldc 34, 2) := by decide +kernel
theorem dX2_init_170 : decode cX2_init 170 = .ok (.iastore, 1) := by decide +kernel
theorem dX2_init_171 : decode cX2_init 171 = .ok (.dup, 1) := by decide +kernel
theorem dX2_init_172 : decode cX2_init 172 = .ok (.bipush 28, 2) := by decide +kernel
theorem dX2_init_174 : decode cX2_init 174 = .ok (.ldc 35, 2) := by decide +kernel
end
section
theorem dX2_init_176 : decode cX2_init 176 = .ok (.iastore, 1) := by decide +kernel
theorem dX2_init_177 : decode cX2_init 177 = .ok (.dup, 1) := by decide +kernel
theorem dX2_init_178 : decode cX2_init 178 = .ok (.bipush 29, 2) := by decide +kernel
theorem dX2_init_180 : decode cX2_init 180 = .ok (.ldc 36, 2) := by decide +kernel
theorem dX2_init_182 : decode cX2_init 182 = .ok (.iastore, 1) := by decide +kernel
theorem dX2_init_183 : decode cX2_init 183 = .ok (.dup, 1) := by decide +kernel
theorem dX2_init_184 : decode cX2_init 184 = .ok (.bipush 30, 2) := by decide +kernel
theorem dX2_init_186 : decode cX2_init 186 = .ok (.ldc 37, 2) := by decide +kernel
theorem dX2_init_188 : decode cX2_init 188 = .ok (.iastore, 1) := by decide +kernel
theorem dX2_init_189 : decode cX2_init 189 = .ok (.dup, 1) := by decide +kernel
theorem dX2_init_190 : decode cX2_init 190 = .ok (.bipush 31, 2) := by decide +kernel
theorem dX2_init_192 : decode cX2_init 192 = .ok (.ldc 38, 2) := by decide +kernel
theorem dX2_init_194 : decode cX2_init 194 = .ok (.iastore, 1) := by decide +kernel
theorem dX2_init_195 : decode cX2_init 195 = .ok (.dup, 1) := by decide +kernel
theorem dX2_init_196 : decode cX2_init 196 = .ok (.bipush 32, 2) := by decide +kernel
theorem dX2_init_198 : decode cX2_init 198 = .ok (.ldc 39, 2) := by decide +kernel
theorem dX2_init_200 : decode cX2_init 200 = .ok (.iastore, 1) := by decide +kernel
theorem dX2_init_201 : decode cX2_init 201 = .ok (.dup, 1) := by decide +kernel
theorem dX2_init_202 : decode cX2_init 202 = .ok (.bipush 33, 2) := by decide +kernel
theorem dX2_init_204 : decode cX2_init 204 = .ok (.ldc 40, 2) := by decide +kernel
theorem dX2_init_206 : decode cX2_init 206 = .ok (.iastore, 1) := by decide +kernel
theorem dX2_init_207 : decode cX2_init 207 = .ok (.dup, 1) := by decide +kernel
theorem dX2_init_208 : decode cX2_init 208 = .ok (.bipush 34, 2) := by decide +kernel
theorem dX2_init_210 : decode cX2_init 210 = .ok (.ldc 41, 2) := by decide +kernel
theorem dX2_init_212 : decode cX2_init 212 = .ok (.iastore, 1) := by decide +kernel
theorem dX2_init_213 : decode cX2_init 213 = .ok (.dup, 1) := by decide +kernel
theorem dX2_init_214 : decode cX2_init 214 = .ok (.bipush 35, 2) := by decide +kernel
theorem dX2_init_216 : decode cX2_init 216 = .ok (.ldc 42, 2) := by decide +kernel
theorem dX2_init_218 : decode cX2_init 218 = .ok (.iastore, 1) := by decide +kernel
theorem dX2_init_219 : decode cX2_init 219 = .ok (.dup, 1) := by decide +kernel
theorem dX2_init_220 : decode cX2_init 220 = .ok (.bipush 36, 2) := by decide +kernel
theorem dX2_init_222 : decode cX2_init 222 = .ok (.ldc 43, 2) := by decide +kernel
theorem dX2_init_224 : decode cX2_init 224 = .ok (.iastore, 1) := by decide +kernel
theorem dX2_init_225 : decode cX2_init 225 = .ok (.dup, 1) := by decide +kernel
theorem dX2_init_226 : decode cX2_init 226 = .ok (.bipush 37, 2) := by decide +kernel
theorem dX2_init_228 : decode cX2_init 228 = .ok (.ldc 44, 2) := by decide +kernel
theorem dX2_init_230 : decode cX2_init 230 = .ok (.iastore, 1) := by decide +kernel
theorem dX2_init_231 : decode cX2_init 231 = .ok (.dup, 1) := by decide +kernel
theorem dX2_init_232 : decode cX2_init 232 = .ok (.bipush 38, 2) := by decide +kernel
theorem dX2_init_234 : decode cX2_init 234 = .ok (.ldc 45, 2) := by decide +kernel
theorem dX2_init_236 : decode cX2_init 236 = .ok (.iastore, 1) := by decide +kernel
theorem dX2_init_237 : decode cX2_init 237 = .ok (.dup, 1) := by decide +kernel
theorem dX2_init_238 : decode cX2_init 238 = .ok (.bipush 39, 2) := by decide +kernel
theorem dX2_init_240 : decode cX2_init 240 = .ok (.ldc 46, 2) := by decide +kernel
theorem dX2_init_242 : decode cX2_init 242 = .ok (.iastore, 1) := by decide +kernel
theorem dX2_init_243 : decode cX2_init 243 = .ok (.dup, 1) := by decide +kernel
theorem dX2_init_244 : decode cX2_init 244 = .ok (.bipush 40, 2) := by decide +kernel
theorem dX2_init_246 : decode cX2_init 246 = .ok (.ldc 47, 2) := by decide +kernel
theorem dX2_init_248 : decode cX2_init 248 = .ok (.iastore, 1) := by decide +kernel
theorem dX2_init_249 : decode cX2_init 249 = .ok (.dup, 1) := by decide +kernel
theorem dX2_init_250 : decode cX2_init 250 = .ok (.bipush 41, 2) := by decide +kernel
theorem dX2_init_252 : decode cX2_init 252 = .ok (.ldc 48, 2) := by decide +kernel
theorem dX2_init_254 : decode cX2_init 254 = .ok (.iastore, 1) := by decide +kernel
theorem dX2_init_255 : decode cX2_init 255 = .ok (.dup, 1) := by decide +kernel
theorem dX2_init_256 : decode cX2_init 256 = .ok (.bipush 42, 2) := by decide +kernel
theorem dX2_init_258 : decode cX2_init 258 = .ok (.ldc 49, 2) := by decide +kernel
theorem dX2_init_260 : decode cX2_init 260 = .ok (.iastore, 1) := by decide +kernel
theorem dX2_init_261 : decode cX2_init 261 = .ok (.dup, 1) := by decide +kernel
theorem dX2_init_262 : decode cX2_init 262 = .ok (.bipush 43, 2) := by decide +kernel
theorem dX2_init_264 : decode cX2_init 264 = .ok (.ldc 50, 2) := by decide +kernel
theorem dX2_init_266 : decode cX2_init 266 = .ok (.iastore, 1) := by decide +kernel
theorem dX2_init_267 : decode cX2_init 267 = .ok (.dup, 1) := by decide +kernel
theorem dX2_init_268 : decode cX2_init 268 = .ok (.bipush 44, 2) := by decide +kernel
theorem dX2_init_270 : decode cX2_init 270 = .ok (.ldc 51, 2) := by decide +kernel
theorem dX2_init_272 : decode cX2_init 272 = .ok (.iastore, 1) := by decide +kernel
theorem dX2_init_273 : decode cX2_init 273 = .ok (.dup, 1) := by decide +kernel
theorem dX2_init_274 : decode cX2_init 274 = .ok (.bipush 45, 2) := by decide +kernel
theorem dX2_init_276 : decode cX2_init 276 = .ok (.ldc 52, 2) := by decide +kernel
theorem dX2_init_278 : decode cX2_init 278 = .ok (.iastore, 1) := by decide +kernel
theorem dX2_init_279 : decode cX2_init 279 = .ok (.dup, 1) := by decide +kernel
theorem dX2_init_280 : decode cX2_init 280 = .ok (.bipush 46, 2) := by decide +kernel
theorem dX2_init_282 : decode cX2_init 282 = .ok (.ldc 53, 2) := by decide +kernel
theorem dX2_init_284 : decode cX2_init 284 = .ok (.iastore, 1) := by decide +kernel
theorem dX2_init_285 : decode cX2_init 285 = .ok (.dup, 1) := by decide +kernel
theorem dX2_init_286 : decode cX2_init 286 = .ok (.bipush 47, 2) := by decide +kernel
theorem dX2_init_288 : decode cX2_init 288 = .ok (.ldc 54, 2) := by decide +kernel
theorem dX2_init_290 : decode cX2_init 290 = .ok (.iastore, 1) := by decide +kernel
theorem dX2_init_291 : decode cX2_init 291 = .ok (.dup, 1) := by decide +kernel
theorem dX2_init_292 : decode cX2_init 292 = .ok (.bipush 48, 2) := by decide +kernel
theorem dX2_init_294 : decode cX2_init 294 = .ok (.ldc 55, 2) := by decide +kernel
theorem dX2_init_296 : decode cX2_init 296 = .ok (.iastore, 1) := by decide +kernel
theorem dX2_init_297 : decode cX2_init 297 = .ok (.dup, 1) := by decide +kernel
theorem dX2_init_298 : decode cX2_init 298 = .ok (.bipush 49, 2) := by decide +kernel
theorem dX2_init_300 : decode cX2_init 300 = .ok (.ldc 56, 2) := by decide +kernel
theorem dX2_init_302 : decode cX2_init 302 = .ok (.iastore, 1) := by decide +kernel
theorem dX2_init_303 : decode cX2_init 303 = .ok (.dup, 1) := by decide +kernel
theorem dX2_init_304 : decode cX2_init 304 = .ok (.bipush 50, 2) := by decide +kernel
theorem dX2_init_306 : decode cX2_init 306 = .ok (.ldc 57, 2) := by decide +kernel
theorem dX2_init_308 : decode cX2_init 308 = .ok (.iastore, 1) := by decide +kernel
theorem dX2_init_309 : decode cX2_init 309 = .ok (.dup, 1) := by decide +kernel
theorem dX2_init_310 : decode cX2_init 310 = .ok (.bipush 51, 2) := by decide +kernel
theorem dX2_init_312 : decode cX2_init 312 = .ok (.ldc 58, 2) := by decide +kernel
theorem dX2_init_314 : decode cX2_init 314 = .ok (.iastore, 1) := by decide +kernel
theorem dX2_init_315 : decode cX2_init 315 = .ok (.dup, 1) := by decide +kernel
theorem dX2_init_316 : decode cX2_init 316 = .ok (.bipush 52, 2) := by decide +kernel
theorem dX2_init_318 : decode cX2_init 318 = .ok (.ldc 59, 2) := by decide +kernel
theorem dX2_init_320 : decode cX2_init 320 = .ok (.iastore, 1) := by decide +kernel
theorem dX2_init_321 : decode cX2_init 321 = .ok (.dup, 1) := by decide +kernel
theorem dX2_init_322 : decode cX2_init 322 = .ok (.bipush 53, 2) := by decide +kernel
theorem dX2_init_324 : decode cX2_init 324 = .ok (.ldc 60, 2) := by decide +kernel
theorem dX2_init_326 : decode cX2_init 326 = .ok (.iastore, 1) := by decide +kernel
theorem dX2_init_327 : decode cX2_init 327 = .ok (.dup, 1) := by decide +kernel
theorem dX2_init_328 : decode cX2_init 328 = .ok (.bipush 54, 2) := by decide +kernel
theorem dX2_init_330 : decode cX2_init 330 = .ok (.ldc 61, 2) := by decide +kernel
theorem dX2_init_332 : decode cX2_init 332 = .ok (.iastore, 1) := by decide +kernel
theorem dX2_init_333 : decode cX2_init 333 = .ok (.dup, 1) := by decide +kernel
theorem dX2_init_334 : decode cX2_init 334 = .ok (.bipush 55, 2) := by decide +kernel
theorem dX2_init_336 : decode cX2_init 336 = .ok (.ldc 62, 2) := by decide +kernel
theorem dX2_init_338 : decode cX2_init 338 = .ok (.iastore, 1) := by decide +kernel
theorem dX2_init_339 : decode cX2_init 339 = .ok (.dup, 1) := by decide +kernel
theorem dX2_init_340 : decode cX2_init 340 = .ok (.bipush 56, 2) := by decide +kernel
theorem dX2_init_342 : decode cX2_init 342 = .ok (.ldc 63, 2) := by decide +kernel
theorem dX2_init_344 : decode cX2_init 344 = .ok (.iastore, 1) := by decide +kernel
theorem dX2_init_345 : decode cX2_init 345 = .ok (.dup, 1) := by decide +kernel
theorem dX2_init_346 : decode cX2_init 346 = .ok (.bipush 57, 2) := by decide +kernel
theorem dX2_init_348 : decode cX2_init 348 = .ok (.ldc 64, 2) := by decide +kernel
theorem dX2_init_350 : decode cX2_init 350 = .ok (.iastore, 1) := by decide +kernel
theorem dX2_init_351 : decode cX2_init 351 = .ok (.dup, 1) := by decide +kernel
theorem dX2_init_352 : decode cX2_init 352 = .ok (.bipush 58, 2) := by decide +kernel
theorem dX2_init_354 : decode cX2_init 354 = .ok (.ldc 65, 2) := by decide +kernel
end
section
theorem dX2_init_356 : decode cX2_init 356 = .ok (.iastore, 1) := by decide +kernel
theorem dX2_init_357 : decode cX2_init 357 = .ok (.dup, 1) := by decide +kernel
theorem dX2_init_358 : decode cX2_init 358 = .ok (.bipush 59, 2) := by decide +kernel
theorem dX2_init_360 : decode cX2_init 360 = .ok (.ldc 66, 2) := by decide +kernel
theorem dX2_init_362 : decode cX2_init 362 = .ok (.iastore, 1) := by decide +kernel
theorem dX2_init_363 : decode cX2_init 363 = .ok (.dup, 1) := by decide +kernel
theorem dX2_init_364 : decode cX2_init 364 = .ok (.bipush 60, 2) := by decide +kernel
theorem dX2_init_366 : decode cX2_init 366 = .ok (.ldc 67, 2) := by decide +kernel
theorem dX2_init_368 : decode cX2_init 368 = .ok (.iastore, 1) := by decide +kernel
theorem dX2_init_369 : decode cX2_init 369 = .ok (.dup, 1) := by decide +kernel
theorem dX2_init_370 : decode cX2_init 370 = .ok (.bipush 61, 2) := by decide +kernel
theorem dX2_init_372 : decode cX2_init 372 = .ok (.ldc 68, 2) := by decide +kernel
theorem dX2_init_374 : decode cX2_init 374 = .ok (.iastore, 1) := by decide +kernel
theorem dX2_init_375 : decode cX2_init 375 = .ok (.dup, 1) := by decide +kernel
theorem dX2_init_376 : decode cX2_init 376 = .ok (.bipush 62, 2) := by decide +kernel
theorem dX2_init_378 : decode cX2_init 378 = .ok (.ldc 69, 2) := by decide +kernel
theorem dX2_init_380 : decode cX2_init 380 = .ok (.iastore, 1) := by decide +kernel
theorem dX2_init_381 : decode cX2_init 381 = .ok (.dup, 1) := by decide +kernel
theorem dX2_init_382 : decode cX2_init 382 = .ok (.bipush 63, 2) := by decide +kernel
theorem dX2_init_384 : decode cX2_init 384 = .ok (.ldc 70, 2) := by decide +kernel
theorem dX2_init_386 : decode cX2_init 386 = .ok (.iastore, 1) := by decide +kernel
theorem dX2_init_387 : decode cX2_init 387 = .ok (.putfield 71, 3) := by decide +kernel
theorem dX2_init_390 : decode cX2_init 390 = .ok (.aload_n 0, 1) := by decide +kernel
theorem dX2_init_391 : decode cX2_init 391 = .ok (.bipush 16, 2) := by decide +kernel
theorem dX2_init_393 : decode cX2_init 393 = .ok (.newarray .int, 2) := by decide +kernel
theorem dX2_init_395 : decode cX2_init 395 = .ok (.dup, 1) := by decide +kernel
theorem dX2_init_396 : decode cX2_init 396 = .ok (.iconst 0, 1) := by decide +kernel
theorem dX2_init_397 : decode cX2_init 397 = .ok (.bipush 7, 2) := by decide +kernel
theorem dX2_init_399 : decode cX2_init 399 = .ok (.iastore, 1) := by decide +kernel
theorem dX2_init_400 : decode cX2_init 400 = .ok (.dup, 1) := by decide +kernel
theorem dX2_init_401 : decode cX2_init 401 = .ok (.iconst 1, 1) := by decide +kernel
theorem dX2_init_402 : decode cX2_init 402 = .ok (.bipush 12, 2) := by decide +kernel
theorem dX2_init_404 : decode cX2_init 404 = .ok (.iastore, 1) := by decide +kernel
theorem dX2_init_405 : decode cX2_init 405 = .ok (.dup, 1) := by decide +kernel
theorem dX2_init_406 : decode cX2_init 406 = .ok (.iconst 2, 1) := by decide +kernel
theorem dX2_init_407 : decode cX2_init 407 = .ok (.bipush 17, 2) := by decide +kernel
theorem dX2_init_409 : decode cX2_init 409 = .ok (.iastore, 1) := by decide +kernel
theorem dX2_init_410 : decode cX2_init 410 = .ok (.dup, 1) := by decide +kernel
theorem dX2_init_411 : decode cX2_init 411 = .ok (.iconst 3, 1) := by decide +kernel
theorem dX2_init_412 : decode cX2_init 412 = .ok (.bipush 22, 2) := by decide +kernel
theorem dX2_init_414 : decode cX2_init 414 = .ok (.iastore, 1) := by decide +kernel
theorem dX2_init_415 : decode cX2_init 415 = .ok (.dup, 1) := by decide +kernel
theorem dX2_init_416 : decode cX2_init 416 = .ok (.iconst 4, 1) := by decide +kernel
theorem dX2_init_417 : decode cX2_init 417 = .ok (.iconst 5, 1) := by decide +kernel
theorem dX2_init_418 : decode cX2_init 418 = .ok (.iastore, 1) := by decide +kernel
theorem dX2_init_419 : decode cX2_init 419 = .ok (.dup, 1) := by decide +kernel
theorem dX2_init_420 : decode cX2_init 420 = .ok (.iconst 5, 1) := by decide +kernel
theorem dX2_init_421 : decode cX2_init 421 = .ok (.bipush 9, 2) := by decide +kernel
theorem dX2_init_423 : decode cX2_init 423 = .ok (.iastore, 1) := by decide +kernel
theorem dX2_init_424 : decode cX2_init 424 = .ok (.dup, 1) := by decide +kernel
theorem dX2_init_425 : decode cX2_init 425 = .ok (.bipush 6, 2) := by decide +kernel
theorem dX2_init_427 : decode cX2_init 427 = .ok (.bipush 14, 2) := by decide +kernel
theorem dX2_init_429 : decode cX2_init 429 = .ok (.iastore, 1) := by decide +kernel
theorem dX2_init_430 : decode cX2_init 430 = .ok (.dup, 1) := by decide +kernel
theorem dX2_init_431 : decode cX2_init 431 = .ok (.bipush 7, 2) := by decide +kernel
theorem dX2_init_433 : decode cX2_init 433 = .ok (.bipush 20, 2) := by decide +kernel
theorem dX2_init_435 : decode cX2_init 435 = .ok (.iastore, 1) := by decide +kernel
theorem dX2_init_436 : decode cX2_init 436 = .ok (.dup, 1) := by decide +kernel
theorem dX2_init_437 : decode cX2_init 437 = .ok (.bipush 8, 2) := by decide +kernel
theorem dX2_init_439 : decode cX2_init 439 = .ok (.iconst 4, 1) := by decide +kernel
theorem dX2_init_440 : decode cX2_init 440 = .ok (.iastore, 1) := by decide +kernel
theorem dX2_init_441 : decode cX2_init 441 = .ok (.dup, 1) := by decide +kernel
theorem dX2_init_442 : decode cX2_init 442 = .ok (.bipush 9, 2) := by decide +kernel
theorem dX2_init_444 : decode cX2_init 444 = .ok (.bipush 11, 2) := by decide +kernel
theorem dX2_init_446 : decode cX2_init 446 = .ok (.iastore, 1) := by decide +kernel
theorem dX2_init_447 : decode cX2_init 447 = .ok (.dup, 1) := by decide +kernel
theorem dX2_init_448 : decode cX2_init 448 = .ok (.bipush 10, 2) := by decide +kernel
theorem dX2_init_450 : decode cX2_init 450 = .ok (.bipush 16, 2) := by decide +kernel
theorem dX2_init_452 : decode cX2_init 452 = .ok (.iastore, 1) := by decide +kernel
theorem dX2_init_453 : decode cX2_init 453 = .ok (.dup, 1) := by decide +kernel
theorem dX2_init_454 : decode cX2_init 454 = .ok (.bipush 11, 2) := by decide +kernel
theorem dX2_init_456 : decode cX2_init 456 = .ok (.bipush 23, 2) := by decide +kernel
theorem dX2_init_458 : decode cX2_init 458 = .ok (.iastore, 1) := by decide +kernel
theorem dX2_init_459 : decode cX2_init 459 = .ok (.dup, 1) := by decide +kernel
theorem dX2_init_460 : decode cX2_init 460 = .ok (.bipush 12, 2) := by decide +kernel
theorem dX2_init_462 : decode cX2_init 462 = .ok (.bipush 6, 2) := by decide +kernel
theorem dX2_init_464 : decode cX2_init 464 = .ok (.iastore, 1) := by decide +kernel
theorem dX2_init_465 : decode cX2_init 465 = .ok (.dup, 1) := by decide +kernel
theorem dX2_init_466 : decode cX2_init 466 = .ok (.bipush 13, 2) := by decide +kernel
theorem dX2_init_468 : decode cX2_init 468 = .ok (.bipush 10, 2) := by decide +kernel
theorem dX2_init_470 : decode cX2_init 470 = .ok (.iastore, 1) := by decide +kernel
theorem dX2_init_471 : decode cX2_init 471 = .ok (.dup, 1) := by decide +kernel
theorem dX2_init_472 : decode cX2_init 472 = .ok (.bipush 14, 2) := by decide +kernel
theorem dX2_init_474 : decode cX2_init 474 = .ok (.bipush 15, 2) := by decide +kernel
theorem dX2_init_476 : decode cX2_init 476 = .ok (.iastore, 1) := by decide +kernel
theorem dX2_init_477 : decode cX2_init 477 = .ok (.dup, 1) := by decide +kernel
theorem dX2_init_478 : decode cX2_init 478 = .ok (.bipush 15, 2) := by decide +kernel
theorem dX2_init_480 : decode cX2_init 480 = .ok (.bipush 21, 2) := by decide +kernel
theorem dX2_init_482 : decode cX2_init 482 = .ok (.iastore, 1) := by decide +kernel
theorem dX2_init_483 : decode cX2_init 483 = .ok (.putfield 77, 3) := by decide +kernel
theorem dX2_init_486 : decode cX2_init 486 = .ok (.aload_n 0, 1) := by decide +kernel
theorem dX2_init_487 : decode cX2_init 487 = .ok (.iconst 4, 1) := by decide +kernel
theorem dX2_init_488 : decode cX2_init 488 = .ok (.newarray .int, 2) := by decide +kernel
theorem dX2_init_490 : decode cX2_init 490 = .ok (.dup, 1) := by decide +kernel
theorem dX2_init_491 : decode cX2_init 491 = .ok (.iconst 0, 1) := by decide +kernel
theorem dX2_init_492 : decode cX2_init 492 = .ok (.ldc 80, 2) := by decide +kernel
theorem dX2_init_494 : decode cX2_init 494 = .ok (.iastore, 1) := by decide +kernel
theorem dX2_init_495 : decode cX2_init 495 = .ok (.dup, 1) := by decide +kernel
theorem dX2_init_496 : decode cX2_init 496 = .ok (.iconst 1, 1) := by decide +kernel
theorem dX2_init_497 : decode cX2_init 497 = .ok (.ldc 81, 2) := by decide +kernel
theorem dX2_init_499 : decode cX2_init 499 = .ok (.iastore, 1) := by decide +kernel
theorem dX2_init_500 : decode cX2_init 500 = .ok (.dup, 1) := by decide +kernel
theorem dX2_init_501 : decode cX2_init 501 = .ok (.iconst 2, 1) := by decide +kernel
theorem dX2_init_502 : decode cX2_init 502 = .ok (.ldc 82, 2) := by decide +kernel
theorem dX2_init_504 : decode cX2_init 504 = .ok (.iastore, 1) := by decide +kernel
theorem dX2_init_505 : decode cX2_init 505 = .ok (.dup, 1) := by decide +kernel
theorem dX2_init_506 : decode cX2_init 506 = .ok (.iconst 3, 1) := by decide +kernel
theorem dX2_init_507 : decode cX2_init 507 = .ok (.ldc 83, 2) := by decide +kernel
theorem dX2_init_509 : decode cX2_init 509 = .ok (.iastore, 1) := by decide +kernel
theorem dX2_init_510 : decode cX2_init 510 = .ok (.putfield 84, 3) := by decide +kernel
theorem dX2_init_513 : decode cX2_init 513 = .ok (.aload_n 0, 1) := by decide +kernel
theorem dX2_init_514 : decode cX2_init 514 = .ok (.iconst 4, 1) := by decide +kernel
theorem dX2_init_515 : decode cX2_init 515 = .ok (.newarray .int, 2) := by decide +kernel
theorem dX2_init_517 : decode cX2_init 517 = .ok (.dup, 1) := by decide +kernel
theorem dX2_init_518 : decode cX2_init 518 = .ok (.iconst 0, 1) := by decide +kernel
theorem dX2_init_519 : decode cX2_init 519 = .ok (.iconst 1, 1) := by decide +kernel
theorem dX2_init_520 : decode cX2_init 520 = .ok (.iastore, 1) := by decide +kernel
theorem dX2_init_521 : decode cX2_init 521 = .ok (.dup, 1) := by decide +kernel
theorem dX2_init_522 : decode cX2_init 522 = .ok (.iconst 1, 1) := by decide +kernel
theorem dX2_init_523 : decode cX2_init 523 = .ok (.iconst 5, 1) := by decide +kernel
end
section
theorem dX2_init_524 : decode cX2_init 524 = .ok (.iastore, 1) := by decide +kernel
theorem dX2_init_525 : decode cX2_init 525 = .ok (.dup, 1) := by decide +kernel
theorem dX2_init_526 : decode cX2_init 526 = .ok (.iconst 2, 1) := by decide +kernel
theorem dX2_init_527 : decode cX2_init 527 = .ok (.iconst 3, 1) := by decide +kernel
theorem dX2_init_528 : decode cX2_init 528 = .ok (.iastore, 1) := by decide +kernel
theorem dX2_init_529 : decode cX2_init 529 = .ok (.dup, 1) := by decide +kernel
theorem dX2_init_530 : decode cX2_init 530 = .ok (.iconst 3, 1) := by decide +kernel
theorem dX2_init_531 : decode cX2_init 531 = .ok (.bipush 7, 2) := by decide +kernel
theorem dX2_init_533 : decode cX2_init 533 = .ok (.iastore, 1) := by decide +kernel
theorem dX2_init_534 : decode cX2_init 534 = .ok (.putfield 87, 3) := by decide +kernel
theorem dX2_init_537 : decode cX2_init 537 = .ok (.aload_n 0, 1) := by decide +kernel
theorem dX2_init_538 : decode cX2_init 538 = .ok (.iconst 4, 1) := by decide +kernel
theorem dX2_init_539 : decode cX2_init 539 = .ok (.newarray .int, 2) := by decide +kernel
theorem dX2_init_541 : decode cX2_init 541 = .ok (.dup, 1) := by decide +kernel
theorem dX2_init_542 : decode cX2_init 542 = .ok (.iconst 0, 1) := by decide +kernel
theorem dX2_init_543 : decode cX2_init 543 = .ok (.iconst 0, 1) := by decide +kernel
theorem dX2_init_544 : decode cX2_init 544 = .ok (.iastore, 1) := by decide +kernel
theorem dX2_init_545 : decode cX2_init 545 = .ok (.dup, 1) := by decide +kernel
theorem dX2_init_546 : decode cX2_init 546 = .ok (.iconst 1, 1) := by decide +kernel
theorem dX2_init_547 : decode cX2_init 547 = .ok (.iconst 1, 1) := by decide +kernel
theorem dX2_init_548 : decode cX2_init 548 = .ok (.iastore, 1) := by decide +kernel
theorem dX2_init_549 : decode cX2_init 549 = .ok (.dup, 1) := by decide +kernel
theorem dX2_init_550 : decode cX2_init 550 = .ok (.iconst 2, 1) := by decide +kernel
theorem dX2_init_551 : decode cX2_init 551 = .ok (.iconst 5, 1) := by decide +kernel
theorem dX2_init_552 : decode cX2_init 552 = .ok (.iastore, 1) := by decide +kernel
theorem dX2_init_553 : decode cX2_init 553 = .ok (.dup, 1) := by decide +kernel
theorem dX2_init_554 : decode cX2_init 554 = .ok (.iconst 3, 1) := by decide +kernel
theorem dX2_init_555 : decode cX2_init 555 = .ok (.iconst 0, 1) := by decide +kernel
theorem dX2_init_556 : decode cX2_init 556 = .ok (.iastore, 1) := by decide +kernel
theorem dX2_init_557 : decode cX2_init 557 = .ok (.putfield 90, 3) := by decide +kernel
theorem dX2_init_560 : decode cX2_init 560 = .ok (.aload_n 0, 1) := by decide +kernel
theorem dX2_init_561 : decode cX2_init 561 = .ok (.sipush 2000, 3) := by decide +kernel
theorem dX2_init_564 : decode cX2_init 564 = .ok (.newarray .int, 2) := by decide +kernel
theorem dX2_init_566 : decode cX2_init 566 = .ok (.putfield 93, 3) := by decide +kernel
theorem dX2_init_569 : decode cX2_init 569 = .ok (.aload_n 0, 1) := by decide +kernel
theorem dX2_init_570 : decode cX2_init 570 = .ok (.bipush 16, 2) := by decide +kernel
theorem dX2_init_572 : decode cX2_init 572 = .ok (.newarray .int, 2) := by decide +kernel
theorem dX2_init_574 : decode cX2_init 574 = .ok (.putfield 96, 3) := by decide +kernel
theorem dX2_init_577 : decode cX2_init 577 = .ok (.aload_n 0, 1) := by decide +kernel
theorem dX2_init_578 : decode cX2_init 578 = .ok (.bipush 64, 2) := by decide +kernel
theorem dX2_init_580 : decode cX2_init 580 = .ok (.newarray .int, 2) := by decide +kernel
theorem dX2_init_582 : decode cX2_init 582 = .ok (.putfield 99, 3) := by decide +kernel
theorem dX2_init_585 : decode cX2_init 585 = .ok (.aload_n 0, 1) := by decide +kernel
theorem dX2_init_586 : decode cX2_init 586 = .ok (.iconst 4, 1) := by decide +kernel
theorem dX2_init_587 : decode cX2_init 587 = .ok (.newarray .int, 2) := by decide +kernel
theorem dX2_init_589 : decode cX2_init 589 = .ok (.putfield 102, 3) := by decide +kernel
theorem dX2_init_592 : decode cX2_init 592 = .ok (.aload_n 0, 1) := by decide +kernel
theorem dX2_init_593 : decode cX2_init 593 = .ok (.iconst 4, 1) := by decide +kernel
theorem dX2_init_594 : decode cX2_init 594 = .ok (.newarray .int, 2) := by decide +kernel
theorem dX2_init_596 : decode cX2_init 596 = .ok (.putfield 105, 3) := by decide +kernel
theorem dX2_init_599 : decode cX2_init 599 = .ok (.aload_n 0, 1) := by decide +kernel
theorem dX2_init_600 : decode cX2_init 600 = .ok (.bipush 16, 2) := by decide +kernel
theorem dX2_init_602 : decode cX2_init 602 = .ok (.newarray .int, 2) := by decide +kernel
theorem dX2_init_604 : decode cX2_init 604 = .ok (.putfield 108, 3) := by decide +kernel
theorem dX2_init_607 : decode cX2_init 607 = .ok (.aload_n 0, 1) := by decide +kernel
theorem dX2_init_608 : decode cX2_init 608 = .ok (.invokevirtual 111, 3) := by decide +kernel
theorem dX2_init_611 : decode cX2_init 611 = .ok (.return_, 1) := by decide +kernel
end
section
/-! bits: pasted from kit/laws/BITS.to-paste -/
def bt (x : Int32) (i : Nat) : Bool := x.toBitVec.getLsbD i
theorem b_ext {x y : Int32} (h : ∀ i, i < 32 → bt x i = bt y i) : x = y := Int32.toBitVec_inj.mp (BitVec.eq_of_getLsbD_eq (fun i hi => h i hi))
theorem b_or (x y : Int32) (i : Nat) : bt (x ||| y) i = (bt x i || bt y i) := by unfold bt; rw [Int32.toBitVec_or, BitVec.getLsbD_or]
theorem b_and (x y : Int32) (i : Nat) : bt (x &&& y) i = (bt x i && bt y i) := by unfold bt; rw [Int32.toBitVec_and, BitVec.getLsbD_and]
theorem b_xor (x y : Int32) (i : Nat) : bt (x ^^^ y) i = (bt x i ^^ bt y i) := by unfold bt; rw [Int32.toBitVec_xor, BitVec.getLsbD_xor]
theorem b_big {x : Int32} {i : Nat} (h : 32 ≤ i) : bt x i = false := BitVec.getLsbD_of_ge _ _ h
theorem b_255 (i : Nat) : bt 255 i = decide (i < 8) := by
  rcases Nat.lt_or_ge i 32 with h | h
  · exact (by decide +kernel : ∀ i, i < 32 → bt 255 i = decide (i < 8)) i h
  · rw [b_big h, decide_eq_false (by omega)]
theorem b_65535 (i : Nat) : bt 65535 i = decide (i < 16) := by
  rcases Nat.lt_or_ge i 32 with h | h
  · exact (by decide +kernel : ∀ i, i < 32 → bt 65535 i = decide (i < 16)) i h
  · rw [b_big h, decide_eq_false (by omega)]
theorem b_m1 : ∀ i, i < 32 → bt (-1) i = true := by decide +kernel
theorem b_0 (i : Nat) : bt 0 i = false := BitVec.getLsbD_zero
theorem s_l : ∀ n, n < 32 → ((nI n &&& 31).toBitVec.smod 32).toNat = n := by decide +kernel
theorem s_u : ∀ n, n < 32 → (((nI n).toUInt32 &&& Int32.toUInt32 31).toBitVec % 32).toNat = n := by decide +kernel
theorem b_shl (n : Nat) (hn : n < 32) (x : Int32) {i : Nat} (hi : i < 32) : bt (x <<< (nI n &&& 31)) i = (decide (n ≤ i) && bt x (i - n)) := by
  unfold bt
  rw [Int32.toBitVec_shiftLeft]
  show (x.toBitVec <<< ((nI n &&& 31).toBitVec.smod 32).toNat).getLsbD i = _
  rw [s_l n hn, BitVec.getLsbD_shiftLeft]
  rcases Nat.lt_or_ge i n with h | h
  · simp [h, Nat.not_le.mpr h]
  · simp [hi, h, Nat.not_lt.mpr h]
theorem b_ushr (n : Nat) (hn : n < 32) (x : Int32) (i : Nat) : bt ((x.toUInt32 >>> ((nI n).toUInt32 &&& Int32.toUInt32 31)).toInt32) i = bt x (n + i) := by
  show (x.toUInt32 >>> ((nI n).toUInt32 &&& Int32.toUInt32 31)).toBitVec.getLsbD i = x.toUInt32.toBitVec.getLsbD (n + i)
  rw [UInt32.toBitVec_shiftRight]
  show (x.toUInt32.toBitVec >>> (((nI n).toUInt32 &&& Int32.toUInt32 31).toBitVec % 32).toNat).getLsbD i = _
  rw [s_u n hn, BitVec.getLsbD_ushiftRight]
theorem b_sshr (n : Nat) (hn : n < 32) (x : Int32) {i : Nat} (hi : i < 32) : bt (x >>> (nI n &&& 31)) i = if n + i < 32 then bt x (n + i) else bt x 31 := by
  unfold bt
  rw [Int32.toBitVec_shiftRight]
  show (x.toBitVec.sshiftRight ((nI n &&& 31).toBitVec.smod 32).toNat).getLsbD i = _
  rw [s_l n hn, BitVec.getLsbD_sshiftRight, BitVec.msb_eq_getLsbD_last]
  simp [hi]
theorem b_shl8 (x : Int32) {i : Nat} (hi : i < 32) : bt (x <<< ((8 : Int32) &&& 31)) i = (decide (8 ≤ i) && bt x (i - 8)) := b_shl 8 (by omega) x hi
theorem b_shl16 (x : Int32) {i : Nat} (hi : i < 32) : bt (x <<< ((16 : Int32) &&& 31)) i = (decide (16 ≤ i) && bt x (i - 16)) := b_shl 16 (by omega) x hi
theorem b_shl24 (x : Int32) {i : Nat} (hi : i < 32) : bt (x <<< ((24 : Int32) &&& 31)) i = (decide (24 ≤ i) && bt x (i - 24)) := b_shl 24 (by omega) x hi
theorem b_sshr8 (x : Int32) {i : Nat} (hi : i < 32) : bt (x >>> ((8 : Int32) &&& 31)) i = if 8 + i < 32 then bt x (8 + i) else bt x 31 := b_sshr 8 (by omega) x hi
theorem bp_b (x : Int32) : x.toInt8.toInt32 &&& 255 = x &&& 255 := by
  apply Int32.toBitVec_inj.mp
  rw [Int32.toBitVec_and, Int32.toBitVec_and, Int8.toBitVec_toInt32, Int32.toBitVec_toInt8]
  apply BitVec.eq_of_getLsbD_eq
  intro i hi
  rw [BitVec.getLsbD_and, BitVec.getLsbD_and]
  have hm : ∀ i < 32, 8 ≤ i → (255 : Int32).toBitVec.getLsbD i = false := by decide
  rcases Nat.lt_or_ge i 8 with z | z
  · rw [BitVec.getLsbD_signExtend, BitVec.getLsbD_signExtend, if_pos z, if_pos hi]
    simp only [z, hi, decide_true, Bool.true_and]
  · rw [hm i hi z]; simp

theorem wb_tb (n : Nat) : (lN n).toBitVec = BitVec.ofNat 64 n := rfl
theorem wb_inj {a b : Int64} (h : a.toBitVec = b.toBitVec) : a = b := Int64.toBitVec_inj.mp h
theorem wb_tn {n : Nat} (h : n < 2 ^ 64) : (lN n).toBitVec.toNat = n := by rw [wb_tb, BitVec.toNat_ofNat, Nat.mod_eq_of_lt h]
theorem wb_of (x : Int64) : ∃ n, n < 2 ^ 64 ∧ x = lN n := ⟨x.toBitVec.toNat, x.toBitVec.isLt, wb_inj (by rw [wb_tb]; simp)⟩
theorem wb_of32 (x : Int32) : ∃ n, n < 2 ^ 32 ∧ x = nI n := ⟨x.toBitVec.toNat, x.toBitVec.isLt, Int32.toBitVec_inj.mp (by show _ = BitVec.ofNat 32 _; simp)⟩
theorem wb_c : ∀ k, k < 64 → ((nI k).toInt64 &&& 63) = lN k := by decide +kernel
theorem wb_cu : ∀ k, k < 64 → ((nI k).toInt64.toUInt64 &&& Int64.toUInt64 63) = UInt64.ofNat k := by decide +kernel
theorem wb_sm : ∀ k, k < 64 → (BitVec.ofNat 64 k).smod 64 = BitVec.ofNat 64 k := by decide +kernel
theorem wb_pw {a b : Nat} (h : a ≤ b) : 2 ^ b = 2 ^ a * 2 ^ (b - a) := by rw [← Nat.pow_add]; congr 1; omega
theorem wb_lt2 {a b : Nat} (h : a < b) : 2 ^ a < 2 ^ b := Nat.pow_lt_pow_right (by decide) h
theorem wb_mod (n : Nat) : lN n = lN (n % 2 ^ 64) := wb_inj (by rw [wb_tb, wb_tb]; apply BitVec.eq_of_toNat_eq; rw [BitVec.toNat_ofNat, BitVec.toNat_ofNat, Nat.mod_mod])
theorem wb_shr {n k : Nat} (hn : n < 2 ^ 64) (hk : k < 64) : ((lN n).toUInt64 >>> ((nI k).toInt64.toUInt64 &&& Int64.toUInt64 63)).toInt64 = lN (n / 2 ^ k) := by
  rw [wb_cu k hk]
  apply wb_inj
  apply BitVec.eq_of_toNat_eq
  show ((lN n).toUInt64 >>> UInt64.ofNat k).toNat = (BitVec.ofNat 64 _).toNat
  have h1 : (UInt64.ofNat k).toNat = k := by
    show (BitVec.ofNat 64 k).toNat = k
    rw [BitVec.toNat_ofNat, Nat.mod_eq_of_lt (by omega)]
  have h2 : (lN n).toUInt64.toNat = n := wb_tn hn
  rw [UInt64.toNat_shiftRight, h1, h2, Nat.mod_eq_of_lt hk, Nat.shiftRight_eq_div_pow, BitVec.toNat_ofNat, Nat.mod_eq_of_lt (Nat.lt_of_le_of_lt (Nat.div_le_self _ _) hn)]
/-! what a sum is, over numbers alone -/
abbrev ks_Q : Type := Int32 × Int32 × Int32 × Int32
def ks_us (x y : Int32) : Int32 := (x.toUInt32 >>> (y.toUInt32 &&& Int32.toUInt32 31)).toInt32
def ks_usl (x : Int64) (y : Int32) : Int64 := (x.toUInt64 >>> (y.toInt64.toUInt64 &&& Int64.toUInt64 63)).toInt64
def ks_rot (x y : Int32) : Int32 := (x <<< (y &&& 31)) ||| ks_us x (32 - y)
def ks_K : List Int32 := [(-680876936), (-389564586), 606105819, (-1044525330), (-176418897), 1200080426, (-1473231341), (-45705983), 1770035416, (-1958414417), (-42063), (-1990404162), 1804603682, (-40341101), (-1502002290), 1236535329, (-165796510), (-1069501632), 643717713, (-373897302), (-701558691), 38016083, (-660478335), (-405537848), 568446438, (-1019803690), (-187363961), 1163531501, (-1444681467), (-51403784), 1735328473, (-1926607734), (-378558), (-2022574463), 1839030562, (-35309556), (-1530992060), 1272893353, (-155497632), (-1094730640), 681279174, (-358537222), (-722521979), 76029189, (-640364487), (-421815835), 530742520, (-995338651), (-198630844), 1126891415, (-1416354905), (-57434055), 1700485571, (-1894986606), (-1051523), (-2054922799), 1873313359, (-30611744), (-1560198380), 1309151649, (-145523070), (-1120210379), 718787259, (-343485551)]
def ks_k (i : Nat) : Int32 := ks_K.getD i 0
def ks_TT : List Int32 := [7, 12, 17, 22, 5, 9, 14, 20, 4, 11, 16, 23, 6, 10, 15, 21]
def ks_tt (i : Nat) : Int32 := ks_TT.getD i 0
def ks_t (i : Nat) : Int32 := ks_tt (4 * (i / 16) + i % 4)
def ks_g (i : Nat) : Nat := match i / 16 with
  | 0 => i % 16
  | 1 => (5 * i + 1) % 16
  | 2 => (3 * i + 5) % 16
  | _ => (7 * i) % 16
theorem ks_g_lt (i : Nat) : ks_g i < 16 := by
  unfold ks_g
  split <;> exact Nat.mod_lt _ (by decide)
def ks_F (k : Nat) (q r s : Int32) : Int32 := match k with
  | 0 => (q &&& r) ||| ((q ^^^ (-1)) &&& s)
  | 1 => (s &&& q) ||| ((s ^^^ (-1)) &&& r)
  | 2 => (q ^^^ r) ^^^ s
  | _ => r ^^^ (q ||| (s ^^^ (-1)))
def ks_st (w : Nat → Int32) (i : Nat) (v : ks_Q) : ks_Q := (v.2.2.2, v.2.1 + ks_rot (((v.1 + ks_F (i / 16) v.2.1 v.2.2.1 v.2.2.2) + ks_k i) + w (ks_g i)) (ks_t i), v.2.1, v.2.2.1)
def ks_run (w : Nat → Int32) (v : ks_Q) : Nat → ks_Q
  | 0 => v
  | n + 1 => ks_st w n (ks_run w v n)
def ks_mix (w : Nat → Int32) (v : ks_Q) : ks_Q := (v.1 + (ks_run w v 64).1, v.2.1 + (ks_run w v 64).2.1, v.2.2.1 + (ks_run w v 64).2.2.1, v.2.2.2 + (ks_run w v 64).2.2.2)
theorem ks_run_congr {w w' : Nat → Int32} (h : ∀ j, j < 16 → w j = w' j) (v : ks_Q) : ∀ n, ks_run w v n = ks_run w' v n := by
  intro n
  induction n with
  | zero => rfl
  | succ n ih =>
    show ks_st w n (ks_run w v n) = ks_st w' n (ks_run w' v n)
    rw [ih]
    unfold ks_st
    rw [h _ (ks_g_lt n)]
theorem ks_mix_congr {w w' : Nat → Int32} (h : ∀ j, j < 16 → w j = w' j) (v : ks_Q) : ks_mix w v = ks_mix w' v := by
  unfold ks_mix
  rw [ks_run_congr h v 64]
/-- a byte pushed in from the top -/
def ks_push (w x : Int32) : Int32 := ks_us w 8 ||| (x <<< ((24 : Int32) &&& 31))
theorem ks_push_bt (w x : Int32) {i : Nat} (hi : i < 32) : bt (ks_push w x) i = if i < 24 then bt w (8 + i) else bt x (i - 24) := by
  unfold ks_push
  rw [b_or, b_shl24 x hi]
  have e : bt (ks_us w 8) i = bt w (8 + i) := b_ushr 8 (by omega) w i
  rw [e]
  by_cases h : i < 24
  · rw [if_pos h, decide_eq_false (by omega)]
    simp
  · rw [if_neg h, decide_eq_true (by omega), b_big (x := w) (i := 8 + i) (by omega)]
    simp
theorem ks_8_bt {x y : Int32} (h : x &&& 255 = y &&& 255) {i : Nat} (hi : i < 8) : bt x i = bt y i := by
  have e : bt (x &&& 255) i = bt (y &&& 255) i := by rw [h]
  rw [b_and, b_and, b_255, decide_eq_true hi] at e
  simpa using e
theorem ks_push_8 {x y : Int32} (w : Int32) (h : x &&& 255 = y &&& 255) : ks_push w x = ks_push w y := by
  apply b_ext
  intro i hi
  rw [ks_push_bt w x hi, ks_push_bt w y hi]
  by_cases c : i < 24
  · rw [if_pos c, if_pos c]
  · rw [if_neg c, if_neg c]
    exact ks_8_bt h (by omega)
def ks_p (f : Nat → Int32) (b : Nat) : Nat → Int32 → Int32
  | 0, o => o
  | t + 1, o => ks_push (ks_p f b t o) (f (b + t))
def ks_w (f : Nat → Int32) (b : Nat) : Int32 := ks_p f b 4 0
theorem ks_p4 (f : Nat → Int32) (b : Nat) (o : Int32) : ks_p f b 4 o = ks_w f b := by
  unfold ks_w
  apply b_ext
  intro i hi
  show bt (ks_push (ks_push (ks_push (ks_push o (f (b + 0))) (f (b + 1))) (f (b + 2))) (f (b + 3))) i = bt (ks_push (ks_push (ks_push (ks_push 0 (f (b + 0))) (f (b + 1))) (f (b + 2))) (f (b + 3))) i
  rw [ks_push_bt _ _ hi, ks_push_bt _ _ hi]
  by_cases c1 : i < 24
  · rw [if_pos c1, if_pos c1, ks_push_bt _ _ (show 8 + i < 32 by omega), ks_push_bt _ _ (show 8 + i < 32 by omega)]
    by_cases c2 : 8 + i < 24
    · rw [if_pos c2, if_pos c2, ks_push_bt _ _ (show 8 + (8 + i) < 32 by omega), ks_push_bt _ _ (show 8 + (8 + i) < 32 by omega)]
      by_cases c3 : 8 + (8 + i) < 24
      · rw [if_pos c3, if_pos c3, ks_push_bt _ _ (show 8 + (8 + (8 + i)) < 32 by omega), ks_push_bt _ _ (show 8 + (8 + (8 + i)) < 32 by omega), if_neg (by omega), if_neg (by omega)]
      · rw [if_neg c3, if_neg c3]
    · rw [if_neg c2, if_neg c2]
  · rw [if_neg c1, if_neg c1]
theorem ks_p_8 {f g : Nat → Int32} {b : Nat} (o : Int32) : ∀ t, (∀ j, j < t → f (b + j) &&& 255 = g (b + j) &&& 255) → ks_p f b t o = ks_p g b t o := by
  intro t
  induction t with
  | zero => intro _; rfl
  | succ t ih =>
    intro h
    show ks_push (ks_p f b t o) (f (b + t)) = ks_push (ks_p g b t o) (g (b + t))
    rw [ih (fun j hj => h j (by omega)), ks_push_8 _ (h t (by omega))]
theorem ks_w_8 {f g : Nat → Int32} {b : Nat} (h : ∀ j, j < 4 → f (b + j) &&& 255 = g (b + j) &&& 255) : ks_w f b = ks_w g b := ks_p_8 0 4 h
/-- the four numbers behind k blocks of 64 -/
def ks_ch (f : Nat → Int32) : Nat → ks_Q
  | 0 => (1732584193, -271733879, -1732584194, 271733878)
  | k + 1 => ks_mix (fun j => ks_w f (64 * k + 4 * j)) (ks_ch f k)
theorem ks_ch_8 {f g : Nat → Int32} : ∀ k, (∀ j, j < 64 * k → f j &&& 255 = g j &&& 255) → ks_ch f k = ks_ch g k := by
  intro k
  induction k with
  | zero => intro _; rfl
  | succ k ih =>
    intro h
    show ks_mix (fun j => ks_w f (64 * k + 4 * j)) (ks_ch f k) = ks_mix (fun j => ks_w g (64 * k + 4 * j)) (ks_ch g k)
    rw [ih (fun j hj => h j (by omega))]
    exact ks_mix_congr (fun j hj => ks_w_8 (fun i hi => h _ (by omega))) _
/-- the sixteen words and the four numbers behind n bytes -/
def ks_inv (f : Nat → Int32) (n : Nat) (wd : Nat → Int32) (v : ks_Q) : Prop :=
  v = ks_ch f (n / 64) ∧ (∀ j, 4 * (j + 1) ≤ n % 64 → wd j = ks_w f (64 * (n / 64) + 4 * j)) ∧ ∃ o, wd (n % 64 / 4) = ks_p f (64 * (n / 64) + 4 * (n % 64 / 4)) (n % 4) o
theorem ks_inv_8 {f g : Nat → Int32} {n : Nat} {wd : Nat → Int32} {v : ks_Q} (h : ks_inv f n wd v) (e : ∀ j, j < n → f j &&& 255 = g j &&& 255) : ks_inv g n wd v := by
  obtain ⟨h1, h2, o, h3⟩ := h
  refine ⟨?_, fun j hj => ?_, o, ?_⟩
  · rw [h1]
    exact ks_ch_8 _ (fun j hj => e j (by omega))
  · rw [h2 j hj]
    exact ks_w_8 (fun i hi => e _ (by omega))
  · rw [h3]
    exact ks_p_8 o _ (fun i hi => e _ (by omega))
theorem ks_inv_0 (f wd : Nat → Int32) : ks_inv f 0 wd (1732584193, -271733879, -1732584194, 271733878) := ⟨rfl, fun j hj => absurd hj (by omega), wd 0, rfl⟩
/-- all the words when a byte has come, and the block isn't full -/
theorem ks_words {f : Nat → Int32} {n : Nat} {wd : Nat → Int32} {v : ks_Q} {x : Int32} (h : ks_inv f n wd v) (hx : f n &&& 255 = x &&& 255) : (∀ j, 4 * (j + 1) ≤ n % 64 + 1 → upd wd (n % 64 / 4) (ks_push (wd (n % 64 / 4)) x) j = ks_w f (64 * (n / 64) + 4 * j)) ∧ ∃ o, upd wd (n % 64 / 4) (ks_push (wd (n % 64 / 4)) x) (n % 64 / 4) = ks_p f (64 * (n / 64) + 4 * (n % 64 / 4)) (n % 4 + 1) o := by
  obtain ⟨h1, h2, o, h3⟩ := h
  have hn : 64 * (n / 64) + 4 * (n % 64 / 4) + n % 4 = n := by omega
  have h4 : ks_push (wd (n % 64 / 4)) x = ks_p f (64 * (n / 64) + 4 * (n % 64 / 4)) (n % 4 + 1) o := by
    show _ = ks_push (ks_p f (64 * (n / 64) + 4 * (n % 64 / 4)) (n % 4) o) (f (64 * (n / 64) + 4 * (n % 64 / 4) + n % 4))
    rw [h3, hn, ks_push_8 _ hx]
  refine ⟨fun j hj => ?_, o, by rw [pk_us, h4]⟩
  by_cases c : j = n % 64 / 4
  · subst c
    rw [pk_us, h4, show n % 4 + 1 = 4 by omega, ks_p4]
  · rw [pk_un c]
    exact h2 j (by omega)
theorem ks_inv_put {f : Nat → Int32} {n : Nat} {wd : Nat → Int32} {v : ks_Q} {x : Int32} (h : ks_inv f n wd v) (hx : f n &&& 255 = x &&& 255) (hl : (n + 1) % 64 ≠ 0) : ks_inv f (n + 1) (upd wd (n % 64 / 4) (ks_push (wd (n % 64 / 4)) x)) v := by
  obtain ⟨w1, o, w2⟩ := ks_words h hx
  have a1 : (n + 1) / 64 = n / 64 := by omega
  have a2 : (n + 1) % 64 = n % 64 + 1 := by omega
  refine ⟨by rw [a1]; exact h.1, fun j hj => ?_, ?_⟩
  · rw [a1]
    exact w1 j (by omega)
  · rw [a1]
    by_cases c : n % 4 = 3
    · refine ⟨upd wd (n % 64 / 4) (ks_push (wd (n % 64 / 4)) x) ((n + 1) % 64 / 4), ?_⟩
      rw [show (n + 1) % 4 = 0 by omega]
      rfl
    · refine ⟨o, ?_⟩
      rw [show (n + 1) % 64 / 4 = n % 64 / 4 by omega, show (n + 1) % 4 = n % 4 + 1 by omega]
      exact w2
theorem ks_inv_full {f : Nat → Int32} {n : Nat} {wd : Nat → Int32} {v : ks_Q} {x : Int32} (h : ks_inv f n wd v) (hx : f n &&& 255 = x &&& 255) (hl : (n + 1) % 64 = 0) : ks_inv f (n + 1) (upd wd (n % 64 / 4) (ks_push (wd (n % 64 / 4)) x)) (ks_mix (upd wd (n % 64 / 4) (ks_push (wd (n % 64 / 4)) x)) v) := by
  obtain ⟨w1, o, w2⟩ := ks_words h hx
  have a1 : (n + 1) / 64 = n / 64 + 1 := by omega
  refine ⟨?_, fun j hj => absurd hj (by omega), _, by rw [hl, show (n + 1) % 4 = 0 by omega]; rfl⟩
  rw [a1, h.1]
  exact ks_mix_congr (fun j hj => w1 j (by omega)) _
/-- what is summed: the bytes, 128, zeros, the number of bits -/
def ks_end (n : Nat) : Nat := 64 * ((n + 8) / 64) + 56
def ks_pad (f : Nat → Int32) (n : Nat) : Nat → Int32 := fun j => if j < n then f j else if j = n then 128 else if j < ks_end n then 0 else nI (8 * n / 256 ^ (j - ks_end n) % 256)
def ks_sum (f : Nat → Int32) (n : Nat) : ks_Q := ks_ch (ks_pad f n) ((n + 8) / 64 + 1)
theorem ks_sum_8 {f g : Nat → Int32} {n : Nat} (e : ∀ j, j < n → f j &&& 255 = g j &&& 255) : ks_sum f n = ks_sum g n := by
  unfold ks_sum
  refine ks_ch_8 _ (fun j _ => ?_)
  unfold ks_pad
  by_cases c : j < n
  · rw [if_pos c, if_pos c]
    exact e j c
  · rw [if_neg c, if_neg c]
def ks_cat (f : Nat → Int32) (n : Nat) (g : Nat → Int32) : Nat → Int32 := fun j => if j < n then f j else g (j - n)
theorem ks_cat_lo {f g : Nat → Int32} {n j : Nat} (h : j < n) : ks_cat f n g j = f j := if_pos h
theorem ks_cat_hi {f g : Nat → Int32} {n j : Nat} : ks_cat f n g (n + j) = g j := by
  unfold ks_cat
  rw [if_neg (by omega), show n + j - n = j by omega]
end
section

section KZ
variable {p : Program} {l : Launch} {e : Env} {R : Room} {s : State} {m : MethodId} {args : Array Value} {below : List Frame} {meth : Method} {c : Code} {H : Heap} {locs : List Loc} {cells slots : Nat} {Q : State → Prop}
variable {cc : ByteArray} {pc : Nat} {ls : Array Slot} {rest : List Value} {D : va_G} {cl : List vw_C} {A : Nat → Prop} {a : Nat} {tys : List (ClassId × FieldType)} {ws : va_W} {H0 : Heap}
/-- the number on top by another name -/
theorem kz_top {x y : Int32} (h : x = y) (k : W p l e R s m args below meth c H locs cells slots Q (F0 m pc ls (.int y :: rest))) : W p l e R s m args below meth c H locs cells slots Q (F0 m pc ls (.int x :: rest)) := by
  subst h
  exact k
theorem kz_topl {x y : Int64} (h : x = y) (k : W p l e R s m args below meth c H locs cells slots Q (F0 m pc ls (.long y :: rest))) : W p l e R s m args below meth c H locs cells slots Q (F0 m pc ls (.long x :: rest)) := by
  subst h
  exact k
theorem kz_iald {j : Nat} (hexec : p.tables.exec = Jvm.exec) (hb : c.code = cc) (hK : va_K D cl tys s) (hP : va_P D cl ws H) (q0 t0 : Nat) {cA : ClassId} {n : Nat} {f : Nat → Int32} (ha : ws[q0]? = some (a, .inl (cA, n, .inl f))) (ht : tys[t0]? = some (cA, .int)) (hj : j < n) (hn : n < 2 ^ 31) (hdg : decode cc pc = .ok (.iaload, 1))
    (kk : W p l e R s m args below meth c H locs cells slots Q (F0 m (pc + 1) ls (.int (f j) :: rest))) : W p l e R s m args below meth c H locs cells slots Q (F0 m pc ls (.int (nI j) :: .ref a :: rest)) :=
  va_iald hexec hb hK hP q0 t0 ha ht (vp_in_nI hj hn) hdg (by rw [nI_clamp (Nat.lt_trans hj hn)]; exact kk)
theorem kz_bald {j : Nat} (hexec : p.tables.exec = Jvm.exec) (hb : c.code = cc) (hK : va_K D cl tys s) (hP : va_P D cl ws H) (q0 t0 : Nat) {cA : ClassId} {n : Nat} {f : Nat → Int32} (ha : ws[q0]? = some (a, .inl (cA, n, .inl f))) (ht : tys[t0]? = some (cA, .byte)) (hj : j < n) (hn : n < 2 ^ 31) (hdg : decode cc pc = .ok (.baload, 1))
    (kk : W p l e R s m args below meth c H locs cells slots Q (F0 m (pc + 1) ls (.int (f j) :: rest))) : W p l e R s m args below meth c H locs cells slots Q (F0 m pc ls (.int (nI j) :: .ref a :: rest)) :=
  va_bald hexec hb hK hP q0 t0 ha ht (vp_in_nI hj hn) hdg (by rw [nI_clamp (Nat.lt_trans hj hn)]; exact kk)
theorem kz_iast {j : Nat} {x : Int32} (hexec : p.tables.exec = Jvm.exec) (hb : c.code = cc) (hK : va_K D cl tys s) (hP : va_P D cl ws H) (hD : va_D A ws) (hS : va_S A H0 H locs) (q0 t0 : Nat) {cA : ClassId} {n : Nat} {f : Nat → Int32} (ha : ws[q0]? = some (a, .inl (cA, n, .inl f))) (ht : tys[t0]? = some (cA, .int)) (hj : j < n) (hn : n < 2 ^ 31) (hdg : decode cc pc = .ok (.iastore, 1))
    (kk : ∀ (H1 : Heap) (locs1 : List Loc), va_P D cl (ws.set q0 (a, .inl (cA, n, .inl (upd f j x)))) H1 → va_D A (ws.set q0 (a, .inl (cA, n, .inl (upd f j x)))) → va_S A H0 H1 locs1 → W p l e R s m args below meth c H1 locs1 cells slots Q (F0 m (pc + 1) ls rest)) : W p l e R s m args below meth c H locs cells slots Q (F0 m pc ls (.int x :: .int (nI j) :: .ref a :: rest)) :=
  va_iast hexec hb hK hP hD hS q0 t0 ha ht (vp_in_nI hj hn) hdg (by rw [nI_clamp (Nat.lt_trans hj hn)]; exact kk)
theorem kz_bast {j : Nat} {x x2 : Int32} (hexec : p.tables.exec = Jvm.exec) (hb : c.code = cc) (hK : va_K D cl tys s) (hP : va_P D cl ws H) (hD : va_D A ws) (hS : va_S A H0 H locs) (q0 t0 : Nat) {cA : ClassId} {n : Nat} {f : Nat → Int32} (ha : ws[q0]? = some (a, .inl (cA, n, .inl f))) (ht : tys[t0]? = some (cA, .byte)) (hj : j < n) (hn : n < 2 ^ 31) (hx : vp_nar .byte x = x2) (hdg : decode cc pc = .ok (.bastore, 1))
    (kk : ∀ (H1 : Heap) (locs1 : List Loc), va_P D cl (ws.set q0 (a, .inl (cA, n, .inl (upd f j x2)))) H1 → va_D A (ws.set q0 (a, .inl (cA, n, .inl (upd f j x2)))) → va_S A H0 H1 locs1 → W p l e R s m args below meth c H1 locs1 cells slots Q (F0 m (pc + 1) ls rest)) : W p l e R s m args below meth c H locs cells slots Q (F0 m pc ls (.int x :: .int (nI j) :: .ref a :: rest)) :=
  va_bast hexec hb hK hP hD hS q0 t0 ha ht (vp_in_nI hj hn) hdg (by rw [nI_clamp (Nat.lt_trans hj hn), hx]; exact kk)
theorem kz_ti {j t N : Nat} {g : Nat → Int32} (hexec : p.tables.exec = Jvm.exec) (hb : c.code = cc) (hT : va_T .int t N (fun j => .int (g j)) A s s.heap) (hS : va_S A s.heap H locs) (hj : j < N) (hN : N < 2 ^ 31) (hdg : decode cc pc = .ok (.iaload, 1))
    (kk : W p l e R s m args below meth c H locs cells slots Q (F0 m (pc + 1) ls (.int (g j) :: rest))) : W p l e R s m args below meth c H locs cells slots Q (F0 m pc ls (.int (nI j) :: .ref t :: rest)) :=
  va_ti hexec hb hT hS (vp_in_nI hj hN) (v := .int (g j)) (by rw [nI_clamp (Nat.lt_trans hj hN)]) hdg kk
/-- a loop: what holds at its head for i holds for i + 1, up to N -/
theorem kz_loop {σ : Type} (I : Nat → σ → Array Slot → Heap → List Loc → Prop) (N : Nat)
    (hs : ∀ (i : Nat) (x : σ) (ls : Array Slot) (H : Heap) (locs : List Loc), i < N → I i x ls H locs → (∀ (x' : σ) (ls' : Array Slot) (H' : Heap) (locs' : List Loc), I (i + 1) x' ls' H' locs' → W p l e R s m args below meth c H' locs' cells slots Q (F0 m pc ls' rest)) → W p l e R s m args below meth c H locs cells slots Q (F0 m pc ls rest))
    (he : ∀ (x : σ) (ls : Array Slot) (H : Heap) (locs : List Loc), I N x ls H locs → W p l e R s m args below meth c H locs cells slots Q (F0 m pc ls rest))
    (i : Nat) (x : σ) (ls : Array Slot) (H : Heap) (locs : List Loc) (hi : i ≤ N) (hI : I i x ls H locs) : W p l e R s m args below meth c H locs cells slots Q (F0 m pc ls rest) := by
  have key : ∀ (n i : Nat), N - i = n → i ≤ N → ∀ (x : σ) (ls : Array Slot) (H : Heap) (locs : List Loc), I i x ls H locs → W p l e R s m args below meth c H locs cells slots Q (F0 m pc ls rest) := by
    intro n
    induction n with
    | zero =>
      intro i h1 h2 x ls H locs hI
      have h3 : i = N := by omega
      subst h3
      exact he x ls H locs hI
    | succ n ih =>
      intro i h1 h2 x ls H locs hI
      exact hs i x ls H locs (by omega) hI (fun x' ls' H' locs' h' => ih (i + 1) (by omega) (by omega) x' ls' H' locs' h')
  exact key _ i rfl hi x ls H locs hI
end KZ
end
section
/-- what a world is behind a method -/
abbrev kz_B (dC : Nat → ClassId) (dI : Nat → Nat → Nat) (tys : List (ClassId × FieldType)) (A : Nat → Prop) (ws : va_W) (t : State) : Prop := va_P (dC, dI) vwCl ws t.heap ∧ va_K (dC, dI) vwCl tys t ∧ va_D A ws
/-- the two tables, and the statics that hold them -/
def ks_tab (tS tT : Nat) (A : Nat → Prop) (U : State) (H : Heap) : Prop := va_Z RX0 "SINES" "[I" (.ref tS) A U H ∧ va_T .int tS 64 (fun j => .int (ks_k j)) A U H ∧ va_Z RX0 "TURNS" "[I" (.ref tT) A U H ∧ va_T .int tT 16 (fun j => .int (ks_tt j)) A U H
theorem ks_tab.moved {tS tT : Nat} {A : Nat → Prop} {u U : State} {H : Heap} (hvm : u.vm.Alike U.vm) (h : ks_tab tS tT A u H) : ks_tab tS tT A U H := ⟨h.1.moved hvm, h.2.1.moved hvm, h.2.2.1.moved hvm, h.2.2.2.moved hvm⟩
theorem ks_tab.kept {tS tT : Nat} {A : Nat → Prop} {U : State} {H H1 : Heap} (h : ks_tab tS tT A U H) (hq : ∀ a : Nat, a < H.size → ¬ A a → H1[a]? = H[a]?) : ks_tab tS tT A U H1 := ⟨h.1.kept hq, h.2.1.kept hq, h.2.2.1.kept hq, h.2.2.2.kept hq⟩
theorem ks_tab.narrow {tS tT : Nat} {A B : Nat → Prop} {U : State} {H : Heap} (h : ks_tab tS tT A U H) (hAB : ∀ q, B q → A q) : ks_tab tS tT B U H := ⟨h.1.narrow hAB, h.2.1.narrow hAB, h.2.2.1.narrow hAB, h.2.2.2.narrow hAB⟩
/-- the tables for a callee: at U, over the heap as it is there -/
theorem ks_tab.call {tS tT : Nat} {A B : Nat → Prop} {s U : State} {H : Heap} {locs : List Loc} (h : ks_tab tS tT A s s.heap) (hS : va_S A s.heap H locs) (hAB : ∀ q, B q → A q) (hU : U.heap = H) (hvm : s.vm.Alike U.vm) : ks_tab tS tT B U U.heap := by
  rw [hU]
  exact ((h.kept (fun a h1 h2 => hS.2.1 a h1 h2)).narrow hAB).moved hvm
/-- the links across the nest -/
def ks_nw (U : State) : Prop := va_Nw (.fieldLinkNest RX1 43 "KeySums$Summer" "count" "I" "KeySums") U ∧ va_Nw (.fieldLinkNest RX1 49 "KeySums$Summer" "a" "I" "KeySums") U ∧ va_Nw (.fieldLinkNest RX1 52 "KeySums$Summer" "b" "I" "KeySums") U ∧ va_Nw (.fieldLinkNest RX1 55 "KeySums$Summer" "c" "I" "KeySums") U ∧ va_Nw (.fieldLinkNest RX1 58 "KeySums$Summer" "d" "I" "KeySums") U ∧ va_Nw (.methodLinkNest RX1 22 yX0_init "KeySums") U ∧ va_Nw (.methodLinkNest RX1 39 yX0_take "KeySums") U ∧ va_Nw (.methodLinkNest RX1 46 yX0_close "KeySums") U ∧ va_Nw (.methodLinkNest RX1 61 yX0_restart "KeySums") U
theorem ks_nw.warm {s U : State} (hW : s.WarmedH U.vm) (h : ks_nw s) : ks_nw U := ⟨va_Nw.warmF hW h.1, va_Nw.warmF hW h.2.1, va_Nw.warmF hW h.2.2.1, va_Nw.warmF hW h.2.2.2.1, va_Nw.warmF hW h.2.2.2.2.1, va_Nw.warmM hW h.2.2.2.2.2.1, va_Nw.warmM hW h.2.2.2.2.2.2.1, va_Nw.warmM hW h.2.2.2.2.2.2.2.1, va_Nw.warmM hW h.2.2.2.2.2.2.2.2⟩
theorem ks_nw.same {u U : State} (e : u.vm = U.vm) (h : ks_nw u) : ks_nw U := ⟨va_Nw.same rfl e h.1, va_Nw.same rfl e h.2.1, va_Nw.same rfl e h.2.2.1, va_Nw.same rfl e h.2.2.2.1, va_Nw.same rfl e h.2.2.2.2.1, va_Nw.same rfl e h.2.2.2.2.2.1, va_Nw.same rfl e h.2.2.2.2.2.2.1, va_Nw.same rfl e h.2.2.2.2.2.2.2.1, va_Nw.same rfl e h.2.2.2.2.2.2.2.2⟩
end
section
set_option maxHeartbeats 4000000 in
set_option maxRecDepth 100000 in
/-- choose -/
theorem c_choose (l : Launch) (k : Nat) (hk : k < 4) (x y z : Int32) : Met l yX0_choose wsX0_choose ({ frames := 0, cells := 0, slots := 0, locals := 0 }) (va_Pc [.int (nI k), .int x, .int y, .int z] (fun _ => True)) (vp_Si (fun z9 => z9 = ks_F k x y z)) 0 0 (fun _ => False) := by
  refine Met.ofW (cc := cX0_choose) (maxL := 4) (ret := (some .int)) (by decide) rfl ?_
  intro p e s m args below meth c s₁ B hml hv
  obtain ⟨rfl, -⟩ := hv
  have hx := B.exec
  have hb := B.bytes
  have hr := B.returns
  have hlocks := B.notSynchronized
  have hl := lv_entry ([.int (nI k), .int x, .int y, .int z]) (n := 4) (Nat.le_of_ble_eq_true rfl)
  rw [lg_entry_eq]
  generalize (lg_sl ([.int (nI k), .int x, .int y, .int z]) ++ List.replicate (4 - (lg_sl ([.int (nI k), .int x, .int y, .int z])).length) Slot.unset).toArray = ls at hl ⊢
  have hl : lv_has ls 4 [(0, .int (nI k)), (1, .int x), (2, .int y), (3, .int z)] := hl
  obtain rfl | rfl | rfl | rfl : k = 0 ∨ k = 1 ∨ k = 2 ∨ k = 3 := by omega
  · skip
    refine lv_iload_n hx hb dX0_choose_0 rfl (lv_at hl 0 rfl) ?_
    refine lv_tableIn (off := 27) (tgt := 28) hx hb dX0_choose_1 (by decide +kernel) (by decide +kernel) (by decide +kernel) (by decide) ?_
    refine lv_iload_n hx hb dX0_choose_28 rfl (lv_at hl 1 rfl) ?_
    refine lv_iload_n hx hb dX0_choose_29 rfl (lv_at hl 2 rfl) ?_
    refine lv_iand hx hb dX0_choose_30 ?_
    refine lv_iload_n hx hb dX0_choose_31 rfl (lv_at hl 1 rfl) ?_
    refine lv_iconst (v := (-1)) hx hb dX0_choose_32 (by decide) ?_
    refine lv_ixor hx hb dX0_choose_33 ?_
    refine lv_iload_n hx hb dX0_choose_34 rfl (lv_at hl 3 rfl) ?_
    refine lv_iand hx hb dX0_choose_35 ?_
    refine lv_ior hx hb dX0_choose_36 ?_
    exact W.iret (v := ((x &&& y) ||| ((x ^^^ (-1)) &&& z))) hx hb hr (fun t ht hW => ⟨((x &&& y) ||| ((x ^^^ (-1)) &&& z)), rfl, rfl, ht⟩) (fun q h => by cases h) dX0_choose_37
  · skip
    refine lv_iload_n hx hb dX0_choose_0 rfl (lv_at hl 0 rfl) ?_
    refine lv_tableIn (off := 37) (tgt := 38) hx hb dX0_choose_1 (by decide +kernel) (by decide +kernel) (by decide +kernel) (by decide) ?_
    refine lv_iload_n hx hb dX0_choose_38 rfl (lv_at hl 3 rfl) ?_
    refine lv_iload_n hx hb dX0_choose_39 rfl (lv_at hl 1 rfl) ?_
    refine lv_iand hx hb dX0_choose_40 ?_
    refine lv_iload_n hx hb dX0_choose_41 rfl (lv_at hl 3 rfl) ?_
    refine lv_iconst (v := (-1)) hx hb dX0_choose_42 (by decide) ?_
    refine lv_ixor hx hb dX0_choose_43 ?_
    refine lv_iload_n hx hb dX0_choose_44 rfl (lv_at hl 2 rfl) ?_
    refine lv_iand hx hb dX0_choose_45 ?_
    refine lv_ior hx hb dX0_choose_46 ?_
    exact W.iret (v := ((z &&& x) ||| ((z ^^^ (-1)) &&& y))) hx hb hr (fun t ht hW => ⟨((z &&& x) ||| ((z ^^^ (-1)) &&& y)), rfl, rfl, ht⟩) (fun q h => by cases h) dX0_choose_47
  · skip
    refine lv_iload_n hx hb dX0_choose_0 rfl (lv_at hl 0 rfl) ?_
    refine lv_tableIn (off := 47) (tgt := 48) hx hb dX0_choose_1 (by decide +kernel) (by decide +kernel) (by decide +kernel) (by decide) ?_
    refine lv_iload_n hx hb dX0_choose_48 rfl (lv_at hl 1 rfl) ?_
    refine lv_iload_n hx hb dX0_choose_49 rfl (lv_at hl 2 rfl) ?_
    refine lv_ixor hx hb dX0_choose_50 ?_
    refine lv_iload_n hx hb dX0_choose_51 rfl (lv_at hl 3 rfl) ?_
    refine lv_ixor hx hb dX0_choose_52 ?_
    exact W.iret (v := ((x ^^^ y) ^^^ z)) hx hb hr (fun t ht hW => ⟨((x ^^^ y) ^^^ z), rfl, rfl, ht⟩) (fun q h => by cases h) dX0_choose_53
  · skip
    refine lv_iload_n hx hb dX0_choose_0 rfl (lv_at hl 0 rfl) ?_
    refine lv_tableOut (tgt := 54) hx hb dX0_choose_1 (Or.inr (by decide +kernel)) (by decide) ?_
    refine lv_iload_n hx hb dX0_choose_54 rfl (lv_at hl 2 rfl) ?_
    refine lv_iload_n hx hb dX0_choose_55 rfl (lv_at hl 1 rfl) ?_
    refine lv_iload_n hx hb dX0_choose_56 rfl (lv_at hl 3 rfl) ?_
    refine lv_iconst (v := (-1)) hx hb dX0_choose_57 (by decide) ?_
    refine lv_ixor hx hb dX0_choose_58 ?_
    refine lv_ior hx hb dX0_choose_59 ?_
    refine lv_ixor hx hb dX0_choose_60 ?_
    exact W.iret (v := (y ^^^ (x ||| (z ^^^ (-1))))) hx hb hr (fun t ht hW => ⟨(y ^^^ (x ||| (z ^^^ (-1)))), rfl, rfl, ht⟩) (fun q h => by cases h) dX0_choose_61
set_option maxHeartbeats 4000000 in
set_option maxRecDepth 100000 in
/-- wordOf -/
theorem c_wordOf (l : Launch) (i : Nat) (hi : i < 64) : Met l yX0_wordOf wsX0_wordOf ({ frames := 0, cells := 0, slots := 0, locals := 0 }) (va_Pc [.int (nI (i / 16)), .int (nI i)] (fun _ => True)) (vp_Si (fun z9 => z9 = nI (ks_g i))) 0 0 (fun _ => False) := by
  refine Met.ofW (cc := cX0_wordOf) (maxL := 2) (ret := (some .int)) (by decide) rfl ?_
  intro p e s m args below meth c s₁ B hml hv
  obtain ⟨rfl, -⟩ := hv
  have hx := B.exec
  have hb := B.bytes
  have hr := B.returns
  have hlocks := B.notSynchronized
  have hl := lv_entry ([.int (nI (i / 16)), .int (nI i)]) (n := 2) (Nat.le_of_ble_eq_true rfl)
  rw [lg_entry_eq]
  generalize (lg_sl ([.int (nI (i / 16)), .int (nI i)]) ++ List.replicate (2 - (lg_sl ([.int (nI (i / 16)), .int (nI i)])).length) Slot.unset).toArray = ls at hl ⊢
  have hl : lv_has ls 2 [(0, .int (nI (i / 16))), (1, .int (nI i))] := hl
  have hk : i / 16 < 4 := by omega
  have hg : ks_g i = ks_g i := rfl
  unfold ks_g
  generalize hke : i / 16 = k at hk hl ⊢
  obtain rfl | rfl | rfl | rfl : k = 0 ∨ k = 1 ∨ k = 2 ∨ k = 3 := by omega
  · skip
    refine lv_iload_n hx hb dX0_wordOf_0 rfl (lv_at hl 0 rfl) ?_
    refine lv_tableIn (off := 27) (tgt := 28) hx hb dX0_wordOf_1 (by decide +kernel) (by decide +kernel) (by decide +kernel) (by decide) ?_
    refine lv_iload_n hx hb dX0_wordOf_28 rfl (lv_at hl 1 rfl) ?_
    refine lv_bipush (v := 15) hx hb dX0_wordOf_29 (by decide) ?_
    refine lv_iand hx hb dX0_wordOf_31 ?_
    refine kz_top (y := nI ((i) % 16)) (pk_andN (by omega) 4 (by decide)) ?_
    exact W.iret (v := (nI ((i) % 16))) hx hb hr (fun t ht hW => ⟨(nI ((i) % 16)), rfl, rfl, ht⟩) (fun q h => by cases h) dX0_wordOf_32
  · skip
    refine lv_iload_n hx hb dX0_wordOf_0 rfl (lv_at hl 0 rfl) ?_
    refine lv_tableIn (off := 32) (tgt := 33) hx hb dX0_wordOf_1 (by decide +kernel) (by decide +kernel) (by decide +kernel) (by decide) ?_
    refine lv_iconst (v := 5) hx hb dX0_wordOf_33 (by decide) ?_
    refine lv_iload_n hx hb dX0_wordOf_34 rfl (lv_at hl 1 rfl) ?_
    refine lv_imul hx hb dX0_wordOf_35 ?_
    refine kz_top (y := nI (5 * i)) (pk_mul 5 i) ?_
    refine lv_iconst (v := 1) hx hb dX0_wordOf_36 (by decide) ?_
    refine lv_iadd hx hb dX0_wordOf_37 ?_
    refine kz_top (y := nI (5 * i + 1)) (nI_add (5 * i) 1) ?_
    refine lv_bipush (v := 15) hx hb dX0_wordOf_38 (by decide) ?_
    refine lv_iand hx hb dX0_wordOf_40 ?_
    refine kz_top (y := nI ((5 * i + 1) % 16)) (pk_andN (by omega) 4 (by decide)) ?_
    exact W.iret (v := (nI ((5 * i + 1) % 16))) hx hb hr (fun t ht hW => ⟨(nI ((5 * i + 1) % 16)), rfl, rfl, ht⟩) (fun q h => by cases h) dX0_wordOf_41
  · skip
    refine lv_iload_n hx hb dX0_wordOf_0 rfl (lv_at hl 0 rfl) ?_
    refine lv_tableIn (off := 41) (tgt := 42) hx hb dX0_wordOf_1 (by decide +kernel) (by decide +kernel) (by decide +kernel) (by decide) ?_
    refine lv_iconst (v := 3) hx hb dX0_wordOf_42 (by decide) ?_
    refine lv_iload_n hx hb dX0_wordOf_43 rfl (lv_at hl 1 rfl) ?_
    refine lv_imul hx hb dX0_wordOf_44 ?_
    refine kz_top (y := nI (3 * i)) (pk_mul 3 i) ?_
    refine lv_iconst (v := 5) hx hb dX0_wordOf_45 (by decide) ?_
    refine lv_iadd hx hb dX0_wordOf_46 ?_
    refine kz_top (y := nI (3 * i + 5)) (nI_add (3 * i) 5) ?_
    refine lv_bipush (v := 15) hx hb dX0_wordOf_47 (by decide) ?_
    refine lv_iand hx hb dX0_wordOf_49 ?_
    refine kz_top (y := nI ((3 * i + 5) % 16)) (pk_andN (by omega) 4 (by decide)) ?_
    exact W.iret (v := (nI ((3 * i + 5) % 16))) hx hb hr (fun t ht hW => ⟨(nI ((3 * i + 5) % 16)), rfl, rfl, ht⟩) (fun q h => by cases h) dX0_wordOf_50
  · skip
    refine lv_iload_n hx hb dX0_wordOf_0 rfl (lv_at hl 0 rfl) ?_
    refine lv_tableOut (tgt := 51) hx hb dX0_wordOf_1 (Or.inr (by decide +kernel)) (by decide) ?_
    refine lv_bipush (v := 7) hx hb dX0_wordOf_51 (by decide) ?_
    refine lv_iload_n hx hb dX0_wordOf_53 rfl (lv_at hl 1 rfl) ?_
    refine lv_imul hx hb dX0_wordOf_54 ?_
    refine kz_top (y := nI (7 * i)) (pk_mul 7 i) ?_
    refine lv_bipush (v := 15) hx hb dX0_wordOf_55 (by decide) ?_
    refine lv_iand hx hb dX0_wordOf_57 ?_
    refine kz_top (y := nI ((7 * i) % 16)) (pk_andN (by omega) 4 (by decide)) ?_
    exact W.iret (v := (nI ((7 * i) % 16))) hx hb hr (fun t ht hW => ⟨(nI ((7 * i) % 16)), rfl, rfl, ht⟩) (fun q h => by cases h) dX0_wordOf_58
set_option maxHeartbeats 4000000 in
set_option maxRecDepth 100000 in
/-- turnLeft -/
theorem c_turnLeft (l : Launch) (x y : Int32) : Met l yX0_turnLeft wsX0_turnLeft ({ frames := 0, cells := 0, slots := 0, locals := 0 }) (va_Pc [.int x, .int y] (fun _ => True)) (vp_Si (fun z9 => z9 = ks_rot x y)) 0 0 (fun _ => False) := by
  refine Met.ofW (cc := cX0_turnLeft) (maxL := 2) (ret := (some .int)) (by decide) rfl ?_
  intro p e s m args below meth c s₁ B hml hv
  obtain ⟨rfl, -⟩ := hv
  have hx := B.exec
  have hb := B.bytes
  have hr := B.returns
  have hlocks := B.notSynchronized
  have hl := lv_entry ([.int x, .int y]) (n := 2) (Nat.le_of_ble_eq_true rfl)
  rw [lg_entry_eq]
  generalize (lg_sl ([.int x, .int y]) ++ List.replicate (2 - (lg_sl ([.int x, .int y])).length) Slot.unset).toArray = ls at hl ⊢
  have hl : lv_has ls 2 [(0, .int x), (1, .int y)] := hl
  refine lv_iload_n hx hb dX0_turnLeft_0 rfl (lv_at hl 0 rfl) ?_
  refine lv_iload_n hx hb dX0_turnLeft_1 rfl (lv_at hl 1 rfl) ?_
  refine lv_ishl hx hb dX0_turnLeft_2 ?_
  refine lv_iload_n hx hb dX0_turnLeft_3 rfl (lv_at hl 0 rfl) ?_
  refine lv_bipush (v := 32) hx hb dX0_turnLeft_4 (by decide) ?_
  refine lv_iload_n hx hb dX0_turnLeft_6 rfl (lv_at hl 1 rfl) ?_
  refine lv_isub hx hb dX0_turnLeft_7 ?_
  refine lv_iushr (v := ks_us x (32 - y)) hx hb dX0_turnLeft_8 rfl ?_
  refine lv_ior hx hb dX0_turnLeft_9 ?_
  exact W.iret (v := ((x <<< (y &&& 31)) ||| (ks_us x (32 - y)))) hx hb hr (fun t ht hW => ⟨((x <<< (y &&& 31)) ||| (ks_us x (32 - y))), rfl, rfl, ht⟩) (fun q h => by cases h) dX0_turnLeft_10
end
section
set_option maxHeartbeats 4000000 in
set_option maxRecDepth 100000 in
/-- mixBlock: the four numbers behind one more block -/
theorem c_mixBlock (l : Launch) (dC : Nat → ClassId) (dI : Nat → Nat → Nat) (sz : Nat) (tS tT h w : Nat) (cI : ClassId) (nn : Int32) (v : ks_Q) (wd : Nat → Int32) : Met l yX0_mixBlock wsX0_mixBlock ({ frames := 1, cells := 0, slots := 0, locals := 24 }) (va_Pc [.ref h] (fun U => U.heap.size = sz ∧ va_P (dC, dI) vwCl [(h, .inr (0, [.ref w, .int nn, .int v.1, .int v.2.1, .int v.2.2.1, .int v.2.2.2])), (w, .inl (cI, 16, .inl wd))] U.heap ∧ va_K (dC, dI) vwCl [(cI, .int)] U ∧ va_D (fun _ => True) [(h, .inr (0, [.ref w, .int nn, .int v.1, .int v.2.1, .int v.2.2.1, .int v.2.2.2])), (w, .inl (cI, 16, .inl wd))] ∧ ks_tab tS tT (va_A [(h, .inr (0, [.ref w, .int nn, .int v.1, .int v.2.1, .int v.2.2.1, .int v.2.2.2])), (w, .inl (cI, 16, .inl wd))] sz) U U.heap)) (va_Qv (fun _u : Unit => True) (fun (_u : Unit) t => kz_B dC dI [(cI, .int)] (va_A [(h, .inr (0, [.ref w, .int nn, .int v.1, .int v.2.1, .int v.2.2.1, .int v.2.2.2])), (w, .inl (cI, 16, .inl wd))] sz) [(h, .inr (0, [.ref w, .int nn, .int ((ks_mix wd v).1), .int ((ks_mix wd v).2.1), .int ((ks_mix wd v).2.2.1), .int ((ks_mix wd v).2.2.2)])), (w, .inl (cI, 16, .inl wd))] t) (va_A [(h, .inr (0, [.ref w, .int nn, .int v.1, .int v.2.1, .int v.2.2.1, .int v.2.2.2])), (w, .inl (cI, 16, .inl wd))] sz)) 0 0 (va_A [(h, .inr (0, [.ref w, .int nn, .int v.1, .int v.2.1, .int v.2.2.1, .int v.2.2.2])), (w, .inl (cI, 16, .inl wd))] sz) := by
  refine Met.ofW (cc := cX0_mixBlock) (maxL := 9) (ret := none) (by decide) rfl ?_
  intro p e s m args below meth c s₁ B hml hv
  obtain ⟨rfl, hsz, hP, hK, hD0, hT⟩ := hv
  have hx := B.exec
  have hb := B.bytes
  have hr := B.returns
  have hts := atoms_spec (ws := wsX0_mixBlock) B.pre
  have hown : s.vm.findClass RX0 = some m.cls := findClass_of_methodNamed B.named
  have hlocks := B.notSynchronized
  subst hsz
  have hD := hD0.self (sz := s.heap.size)
  generalize hAe : va_A [(h, .inr (0, [.ref w, .int nn, .int v.1, .int v.2.1, .int v.2.2.1, .int v.2.2.2])), (w, .inl (cI, 16, .inl wd))] s.heap.size = A at hD hT ⊢
  have hA : ∀ q : Nat, s.heap.size ≤ q → A q := fun q h => by rw [← hAe]; exact Or.inr h
  have hS : va_S A s.heap s.heap [] := va_S.rf
  have hP : va_P (dC, dI) vwCl [(h, .inr (0, [.ref w, .int nn, .int v.1, .int v.2.1, .int v.2.2.1, .int v.2.2.2])), (w, .inl (cI, 16, .inl wd))] s.heap := hP
  have hl := lv_entry ([.ref h]) (n := 9) (Nat.le_of_ble_eq_true rfl)
  rw [lg_entry_eq]
  generalize (lg_sl ([.ref h]) ++ List.replicate (9 - (lg_sl ([.ref h])).length) Slot.unset).toArray = ls at hl ⊢
  have hl : lv_has ls 9 [(0, .ref h)] := hl
  refine lv_aload_n hx hb dX0_mixBlock_0 rfl (lv_at hl 0 rfl) ?_
  refine va_get (D := (dC, dI)) (ci := 0) (v := .int v.1) (C := RX0) (T := TX0) (N := 6) hx hb hts (by decide +kernel) hown hK hP 0 rfl rfl 2 (by decide) (hts (.fieldLink RX0 21 "KeySums$Summer" "a" "I") (by decide +kernel)) (fun _ h9 => h9) rfl dX0_mixBlock_1 ?_
  refine lv_istore_n (lv' := [(1, .int v.1), (0, .ref h)]) hx hb dX0_mixBlock_4 rfl hl (by decide) rfl (fun ls hl => ?_)
  refine lv_aload_n hx hb dX0_mixBlock_5 rfl (lv_at hl 1 rfl) ?_
  refine va_get (D := (dC, dI)) (ci := 0) (v := .int v.2.1) (C := RX0) (T := TX0) (N := 6) hx hb hts (by decide +kernel) hown hK hP 0 rfl rfl 3 (by decide) (hts (.fieldLink RX0 25 "KeySums$Summer" "b" "I") (by decide +kernel)) (fun _ h9 => h9) rfl dX0_mixBlock_6 ?_
  refine lv_istore_n (lv' := [(2, .int v.2.1), (1, .int v.1), (0, .ref h)]) hx hb dX0_mixBlock_9 rfl hl (by decide) rfl (fun ls hl => ?_)
  refine lv_aload_n hx hb dX0_mixBlock_10 rfl (lv_at hl 2 rfl) ?_
  refine va_get (D := (dC, dI)) (ci := 0) (v := .int v.2.2.1) (C := RX0) (T := TX0) (N := 6) hx hb hts (by decide +kernel) hown hK hP 0 rfl rfl 4 (by decide) (hts (.fieldLink RX0 29 "KeySums$Summer" "c" "I") (by decide +kernel)) (fun _ h9 => h9) rfl dX0_mixBlock_11 ?_
  refine lv_istore_n (lv' := [(3, .int v.2.2.1), (2, .int v.2.1), (1, .int v.1), (0, .ref h)]) hx hb dX0_mixBlock_14 rfl hl (by decide) rfl (fun ls hl => ?_)
  refine lv_aload_n hx hb dX0_mixBlock_15 rfl (lv_at hl 3 rfl) ?_
  refine va_get (D := (dC, dI)) (ci := 0) (v := .int v.2.2.2) (C := RX0) (T := TX0) (N := 6) hx hb hts (by decide +kernel) hown hK hP 0 rfl rfl 5 (by decide) (hts (.fieldLink RX0 33 "KeySums$Summer" "d" "I") (by decide +kernel)) (fun _ h9 => h9) rfl dX0_mixBlock_16 ?_
  refine lv_istore (lv' := [(4, .int v.2.2.2), (3, .int v.2.2.1), (2, .int v.2.1), (1, .int v.1), (0, .ref h)]) hx hb dX0_mixBlock_19 hl (by decide) rfl (fun ls hl => ?_)
  refine lv_iconst (v := 0) hx hb dX0_mixBlock_21 (by decide) ?_
  refine kz_top (y := nI 0) nI_0.symm ?_
  refine lv_istore (lv' := [(5, .int (nI 0)), (4, .int v.2.2.2), (3, .int v.2.2.1), (2, .int v.2.1), (1, .int v.1), (0, .ref h)]) hx hb dX0_mixBlock_22 hl (by decide) rfl (fun ls hl => ?_)
  refine kz_loop (σ := ks_Q) (fun i x ls H locs => x = ks_run wd v i ∧ lv_has ls 9 [(5, .int (nI i)), (4, .int x.2.2.2), (3, .int x.2.2.1), (2, .int x.2.1), (1, .int x.1), (0, .ref h)] ∧ va_P (dC, dI) vwCl [(h, .inr (0, [.ref w, .int nn, .int v.1, .int v.2.1, .int v.2.2.1, .int v.2.2.2])), (w, .inl (cI, 16, .inl wd))] H ∧ va_D A [(h, .inr (0, [.ref w, .int nn, .int v.1, .int v.2.1, .int v.2.2.1, .int v.2.2.2])), (w, .inl (cI, 16, .inl wd))] ∧ va_S A s.heap H locs) 64 ?_ ?_ 0 v ls _ _ (Nat.zero_le _) ⟨rfl, hl, hP, hD, hS⟩
  · skip
    intro i x ls H locs hi hI ih
    obtain ⟨hv, hl, hP, hD, hS⟩ := hI
    refine lv_iload hx hb dX0_mixBlock_24 (lv_at hl 0 rfl) ?_
    refine lv_bipush (v := 64) hx hb dX0_mixBlock_26 (by decide) ?_
    refine lv_icmp_ge (tgt := 109) hx hb dX0_mixBlock_28 (by decide) (fun hc => ?_) (fun hc => ?_)
    · skip
      exact absurd hc (nI_ge (a := i) (b := 64) hi (by decide))
    · skip
      refine lv_iload hx hb dX0_mixBlock_31 (lv_at hl 0 rfl) ?_
      refine lv_iconst (v := 4) hx hb dX0_mixBlock_33 (by decide) ?_
      refine lv_ishr hx hb dX0_mixBlock_34 ?_
      refine kz_top (y := nI (i / 16)) (pk_shrN (by omega) _ 4 (by decide)) ?_
      refine lv_istore (lv' := [(6, .int (nI (i / 16))), (5, .int (nI i)), (4, .int x.2.2.2), (3, .int x.2.2.1), (2, .int x.2.1), (1, .int x.1), (0, .ref h)]) hx hb dX0_mixBlock_35 hl (by decide) rfl (fun ls hl => ?_)
      refine lv_iload_n hx hb dX0_mixBlock_37 rfl (lv_at hl 5 rfl) ?_
      refine lv_iload hx hb dX0_mixBlock_38 (lv_at hl 0 rfl) ?_
      refine lv_iload_n hx hb dX0_mixBlock_40 rfl (lv_at hl 4 rfl) ?_
      refine lv_iload_n hx hb dX0_mixBlock_41 rfl (lv_at hl 3 rfl) ?_
      refine lv_iload hx hb dX0_mixBlock_42 (lv_at hl 2 rfl) ?_
      refine vp_callSi (va_runS (As := [.int (nI (i / 16)), .int x.2.1, .int x.2.2.1, .int x.2.2.2]) (rest := [.int x.1]) ⟨hx, hb, hml, hown, hts⟩ (c_choose l (i / 16) (by omega) x.2.1 x.2.2.1 x.2.2.2) (va_cwS 4 hts gX0_mixBlock_X0_choose rfl rfl rfl (by decide +kernel) ⟨Nat.le_of_ble_eq_true rfl, Nat.le_of_ble_eq_true rfl⟩) ⟨fun a U g mk q => q, fun U hU hW => ⟨rfl, trivial⟩⟩ rfl rfl hl.1 rfl (lv_room (Nat.le_of_ble_eq_true rfl)) dX0_mixBlock_44 ⟨Nat.zero_le _, Nat.zero_le _⟩).run (fun r hw => ?_)
      subst hw
      refine lv_iadd hx hb dX0_mixBlock_47 ?_
      refine va_gets hx hb hT.1 hS hown (hts (.fieldLink RX0 49 "KeySums$Summer" "SINES" "[I") (by decide +kernel)) (fun _ h9 => h9) dX0_mixBlock_48 ?_
      refine lv_iload hx hb dX0_mixBlock_51 (lv_at hl 1 rfl) ?_
      refine kz_ti (j := i) hx hb hT.2.1 hS (hi) (by decide) dX0_mixBlock_53 ?_
      refine lv_iadd hx hb dX0_mixBlock_54 ?_
      refine lv_aload_n hx hb dX0_mixBlock_55 rfl (lv_at hl 6 rfl) ?_
      refine va_get (D := (dC, dI)) (ci := 0) (v := .ref w) (C := RX0) (T := TX0) (N := 6) hx hb hts (by decide +kernel) hown hK hP 0 rfl rfl 0 (by decide) (hts (.fieldLink RX0 7 "KeySums$Summer" "words" "[I") (by decide +kernel)) (fun _ h9 => h9) rfl dX0_mixBlock_56 ?_
      refine lv_iload hx hb dX0_mixBlock_59 (lv_at hl 0 rfl) ?_
      refine lv_iload hx hb dX0_mixBlock_61 (lv_at hl 1 rfl) ?_
      refine vp_callSi (va_runS (As := [.int (nI (i / 16)), .int (nI i)]) (rest := [.ref w, .int ((x.1 + (ks_F (i / 16) x.2.1 x.2.2.1 x.2.2.2)) + (ks_k i))]) ⟨hx, hb, hml, hown, hts⟩ (c_wordOf l i hi) (va_cwS 2 hts gX0_mixBlock_X0_wordOf rfl rfl rfl (by decide +kernel) ⟨Nat.le_of_ble_eq_true rfl, Nat.le_of_ble_eq_true rfl⟩) ⟨fun a U g mk q => q, fun U hU hW => ⟨rfl, trivial⟩⟩ rfl rfl hl.1 rfl (lv_room (Nat.le_of_ble_eq_true rfl)) dX0_mixBlock_63 ⟨Nat.zero_le _, Nat.zero_le _⟩).run (fun r hw => ?_)
      subst hw
      refine kz_iald (j := (ks_g i)) hx hb hK hP 1 0 rfl rfl (ks_g_lt i) (by decide) dX0_mixBlock_66 ?_
      refine lv_iadd hx hb dX0_mixBlock_67 ?_
      refine lv_istore (lv' := [(7, .int (((x.1 + (ks_F (i / 16) x.2.1 x.2.2.1 x.2.2.2)) + (ks_k i)) + (wd (ks_g i)))), (6, .int (nI (i / 16))), (5, .int (nI i)), (4, .int x.2.2.2), (3, .int x.2.2.1), (2, .int x.2.1), (1, .int x.1), (0, .ref h)]) hx hb dX0_mixBlock_68 hl (by decide) rfl (fun ls hl => ?_)
      refine lv_iload hx hb dX0_mixBlock_70 (lv_at hl 0 rfl) ?_
      refine va_gets hx hb hT.2.2.1 hS hown (hts (.fieldLink RX0 56 "KeySums$Summer" "TURNS" "[I") (by decide +kernel)) (fun _ h9 => h9) dX0_mixBlock_72 ?_
      refine lv_iconst (v := 4) hx hb dX0_mixBlock_75 (by decide) ?_
      refine lv_iload hx hb dX0_mixBlock_76 (lv_at hl 1 rfl) ?_
      refine lv_imul hx hb dX0_mixBlock_78 ?_
      refine kz_top (y := nI (4 * (i / 16))) (pk_mul 4 (i / 16)) ?_
      refine lv_iload hx hb dX0_mixBlock_79 (lv_at hl 2 rfl) ?_
      refine lv_iconst (v := 3) hx hb dX0_mixBlock_81 (by decide) ?_
      refine lv_iand hx hb dX0_mixBlock_82 ?_
      refine kz_top (y := nI (i % 4)) (pk_andN (by omega) 2 (by decide)) ?_
      refine lv_iadd hx hb dX0_mixBlock_83 ?_
      refine kz_top (y := nI (4 * (i / 16) + i % 4)) (nI_add _ _) ?_
      refine kz_ti (j := (4 * (i / 16) + i % 4)) hx hb hT.2.2.2 hS (show 4 * (i / 16) + i % 4 < 16 by omega) (by decide) dX0_mixBlock_84 ?_
      refine vp_callSi (va_runS (As := [.int (((x.1 + (ks_F (i / 16) x.2.1 x.2.2.1 x.2.2.2)) + (ks_k i)) + (wd (ks_g i))), .int (ks_tt (4 * (i / 16) + i % 4))]) (rest := []) ⟨hx, hb, hml, hown, hts⟩ (c_turnLeft l (((x.1 + (ks_F (i / 16) x.2.1 x.2.2.1 x.2.2.2)) + (ks_k i)) + (wd (ks_g i))) (ks_tt (4 * (i / 16) + i % 4))) (va_cwS 2 hts gX0_mixBlock_X0_turnLeft rfl rfl rfl (by decide +kernel) ⟨Nat.le_of_ble_eq_true rfl, Nat.le_of_ble_eq_true rfl⟩) ⟨fun a U g mk q => q, fun U hU hW => ⟨rfl, trivial⟩⟩ rfl rfl hl.1 rfl (lv_room (Nat.le_of_ble_eq_true rfl)) dX0_mixBlock_85 ⟨Nat.zero_le _, Nat.zero_le _⟩).run (fun r hw => ?_)
      subst hw
      refine lv_istore (lv' := [(8, .int (ks_rot (((x.1 + (ks_F (i / 16) x.2.1 x.2.2.1 x.2.2.2)) + (ks_k i)) + (wd (ks_g i))) (ks_tt (4 * (i / 16) + i % 4)))), (7, .int (((x.1 + (ks_F (i / 16) x.2.1 x.2.2.1 x.2.2.2)) + (ks_k i)) + (wd (ks_g i)))), (6, .int (nI (i / 16))), (5, .int (nI i)), (4, .int x.2.2.2), (3, .int x.2.2.1), (2, .int x.2.1), (1, .int x.1), (0, .ref h)]) hx hb dX0_mixBlock_88 hl (by decide) rfl (fun ls hl => ?_)
      refine lv_iload hx hb dX0_mixBlock_90 (lv_at hl 4 rfl) ?_
      refine lv_istore_n (lv' := [(1, .int x.2.2.2), (8, .int (ks_rot (((x.1 + (ks_F (i / 16) x.2.1 x.2.2.1 x.2.2.2)) + (ks_k i)) + (wd (ks_g i))) (ks_tt (4 * (i / 16) + i % 4)))), (7, .int (((x.1 + (ks_F (i / 16) x.2.1 x.2.2.1 x.2.2.2)) + (ks_k i)) + (wd (ks_g i)))), (6, .int (nI (i / 16))), (5, .int (nI i)), (4, .int x.2.2.2), (3, .int x.2.2.1), (2, .int x.2.1), (0, .ref h)]) hx hb dX0_mixBlock_92 rfl hl (by decide) rfl (fun ls hl => ?_)
      refine lv_iload_n hx hb dX0_mixBlock_93 rfl (lv_at hl 6 rfl) ?_
      refine lv_istore (lv' := [(4, .int x.2.2.1), (1, .int x.2.2.2), (8, .int (ks_rot (((x.1 + (ks_F (i / 16) x.2.1 x.2.2.1 x.2.2.2)) + (ks_k i)) + (wd (ks_g i))) (ks_tt (4 * (i / 16) + i % 4)))), (7, .int (((x.1 + (ks_F (i / 16) x.2.1 x.2.2.1 x.2.2.2)) + (ks_k i)) + (wd (ks_g i)))), (6, .int (nI (i / 16))), (5, .int (nI i)), (3, .int x.2.2.1), (2, .int x.2.1), (0, .ref h)]) hx hb dX0_mixBlock_94 hl (by decide) rfl (fun ls hl => ?_)
      refine lv_iload_n hx hb dX0_mixBlock_96 rfl (lv_at hl 7 rfl) ?_
      refine lv_istore_n (lv' := [(3, .int x.2.1), (4, .int x.2.2.1), (1, .int x.2.2.2), (8, .int (ks_rot (((x.1 + (ks_F (i / 16) x.2.1 x.2.2.1 x.2.2.2)) + (ks_k i)) + (wd (ks_g i))) (ks_tt (4 * (i / 16) + i % 4)))), (7, .int (((x.1 + (ks_F (i / 16) x.2.1 x.2.2.1 x.2.2.2)) + (ks_k i)) + (wd (ks_g i)))), (6, .int (nI (i / 16))), (5, .int (nI i)), (2, .int x.2.1), (0, .ref h)]) hx hb dX0_mixBlock_97 rfl hl (by decide) rfl (fun ls hl => ?_)
      refine lv_iload_n hx hb dX0_mixBlock_98 rfl (lv_at hl 7 rfl) ?_
      refine lv_iload hx hb dX0_mixBlock_99 (lv_at hl 3 rfl) ?_
      refine lv_iadd hx hb dX0_mixBlock_101 ?_
      refine lv_istore_n (lv' := [(2, .int (x.2.1 + (ks_rot (((x.1 + (ks_F (i / 16) x.2.1 x.2.2.1 x.2.2.2)) + (ks_k i)) + (wd (ks_g i))) (ks_tt (4 * (i / 16) + i % 4))))), (3, .int x.2.1), (4, .int x.2.2.1), (1, .int x.2.2.2), (8, .int (ks_rot (((x.1 + (ks_F (i / 16) x.2.1 x.2.2.1 x.2.2.2)) + (ks_k i)) + (wd (ks_g i))) (ks_tt (4 * (i / 16) + i % 4)))), (7, .int (((x.1 + (ks_F (i / 16) x.2.1 x.2.2.1 x.2.2.2)) + (ks_k i)) + (wd (ks_g i)))), (6, .int (nI (i / 16))), (5, .int (nI i)), (0, .ref h)]) hx hb dX0_mixBlock_102 rfl hl (by decide) rfl (fun ls hl => ?_)
      refine lv_iinc (v := nI (i + 1)) (lv' := [(5, .int (nI (i + 1))), (2, .int (x.2.1 + (ks_rot (((x.1 + (ks_F (i / 16) x.2.1 x.2.2.1 x.2.2.2)) + (ks_k i)) + (wd (ks_g i))) (ks_tt (4 * (i / 16) + i % 4))))), (3, .int x.2.1), (4, .int x.2.2.1), (1, .int x.2.2.2), (8, .int (ks_rot (((x.1 + (ks_F (i / 16) x.2.1 x.2.2.1 x.2.2.2)) + (ks_k i)) + (wd (ks_g i))) (ks_tt (4 * (i / 16) + i % 4)))), (7, .int (((x.1 + (ks_F (i / 16) x.2.1 x.2.2.1 x.2.2.2)) + (ks_k i)) + (wd (ks_g i)))), (6, .int (nI (i / 16))), (0, .ref h)]) hx hb dX0_mixBlock_103 hl (k := 7) rfl (nI_1 i) (by decide) rfl (fun ls hl => ?_)
      refine lv_goto (tgt := 24) hx hb dX0_mixBlock_106 (by decide) ?_
      exact ih (ks_st wd i x) ls H locs ⟨by rw [hv]; rfl, lv_sub hl [0, 3, 2, 1, 4, 8] rfl, hP, hD, hS⟩
  · skip
    intro x ls H locs hI
    obtain ⟨hv, hl, hP, hD, hS⟩ := hI
    refine lv_iload hx hb dX0_mixBlock_24 (lv_at hl 0 rfl) ?_
    refine lv_bipush (v := 64) hx hb dX0_mixBlock_26 (by decide) ?_
    refine lv_icmp_ge (tgt := 109) hx hb dX0_mixBlock_28 (by decide) (fun hc => ?_) (fun hc => ?_)
    · skip
      refine lv_aload_n hx hb dX0_mixBlock_109 rfl (lv_at hl 5 rfl) ?_
      refine lv_dup hx hb dX0_mixBlock_110 rfl ?_
      refine va_get (D := (dC, dI)) (ci := 0) (v := .int v.1) (C := RX0) (T := TX0) (N := 6) hx hb hts (by decide +kernel) hown hK hP 0 rfl rfl 2 (by decide) (hts (.fieldLink RX0 21 "KeySums$Summer" "a" "I") (by decide +kernel)) (fun _ h9 => h9) rfl dX0_mixBlock_111 ?_
      refine lv_iload_n hx hb dX0_mixBlock_114 rfl (lv_at hl 4 rfl) ?_
      refine lv_iadd hx hb dX0_mixBlock_115 ?_
      refine va_put (D := (dC, dI)) (ci := 0) (v := .int (v.1 + x.1)) (ty := .int) (C := RX0) (T := TX0) (N := 6) hx hb hts (by decide +kernel) tyX0 tyX0_ok nmX0 hown hK hP hD hS 0 rfl rfl 2 (by decide) (hts (.fieldLink RX0 21 "KeySums$Summer" "a" "I") (by decide +kernel)) (fun _ h9 => h9) rfl (by decide +kernel) rfl rfl (Nat.le_of_ble_eq_true rfl) dX0_mixBlock_116 (fun H locs hP hD hS => ?_)
      have hP : va_P (dC, dI) vwCl [(h, .inr (0, [.ref w, .int nn, .int (v.1 + x.1), .int v.2.1, .int v.2.2.1, .int v.2.2.2])), (w, .inl (cI, 16, .inl wd))] H := hP
      have hD : va_D A [(h, .inr (0, [.ref w, .int nn, .int (v.1 + x.1), .int v.2.1, .int v.2.2.1, .int v.2.2.2])), (w, .inl (cI, 16, .inl wd))] := hD
      refine lv_aload_n hx hb dX0_mixBlock_119 rfl (lv_at hl 5 rfl) ?_
      refine lv_dup hx hb dX0_mixBlock_120 rfl ?_
      refine va_get (D := (dC, dI)) (ci := 0) (v := .int v.2.1) (C := RX0) (T := TX0) (N := 6) hx hb hts (by decide +kernel) hown hK hP 0 rfl rfl 3 (by decide) (hts (.fieldLink RX0 25 "KeySums$Summer" "b" "I") (by decide +kernel)) (fun _ h9 => h9) rfl dX0_mixBlock_121 ?_
      refine lv_iload_n hx hb dX0_mixBlock_124 rfl (lv_at hl 3 rfl) ?_
      refine lv_iadd hx hb dX0_mixBlock_125 ?_
      refine va_put (D := (dC, dI)) (ci := 0) (v := .int (v.2.1 + x.2.1)) (ty := .int) (C := RX0) (T := TX0) (N := 6) hx hb hts (by decide +kernel) tyX0 tyX0_ok nmX0 hown hK hP hD hS 0 rfl rfl 3 (by decide) (hts (.fieldLink RX0 25 "KeySums$Summer" "b" "I") (by decide +kernel)) (fun _ h9 => h9) rfl (by decide +kernel) rfl rfl (Nat.le_of_ble_eq_true rfl) dX0_mixBlock_126 (fun H locs hP hD hS => ?_)
      have hP : va_P (dC, dI) vwCl [(h, .inr (0, [.ref w, .int nn, .int (v.1 + x.1), .int (v.2.1 + x.2.1), .int v.2.2.1, .int v.2.2.2])), (w, .inl (cI, 16, .inl wd))] H := hP
      have hD : va_D A [(h, .inr (0, [.ref w, .int nn, .int (v.1 + x.1), .int (v.2.1 + x.2.1), .int v.2.2.1, .int v.2.2.2])), (w, .inl (cI, 16, .inl wd))] := hD
      refine lv_aload_n hx hb dX0_mixBlock_129 rfl (lv_at hl 5 rfl) ?_
      refine lv_dup hx hb dX0_mixBlock_130 rfl ?_
      refine va_get (D := (dC, dI)) (ci := 0) (v := .int v.2.2.1) (C := RX0) (T := TX0) (N := 6) hx hb hts (by decide +kernel) hown hK hP 0 rfl rfl 4 (by decide) (hts (.fieldLink RX0 29 "KeySums$Summer" "c" "I") (by decide +kernel)) (fun _ h9 => h9) rfl dX0_mixBlock_131 ?_
      refine lv_iload_n hx hb dX0_mixBlock_134 rfl (lv_at hl 2 rfl) ?_
      refine lv_iadd hx hb dX0_mixBlock_135 ?_
      refine va_put (D := (dC, dI)) (ci := 0) (v := .int (v.2.2.1 + x.2.2.1)) (ty := .int) (C := RX0) (T := TX0) (N := 6) hx hb hts (by decide +kernel) tyX0 tyX0_ok nmX0 hown hK hP hD hS 0 rfl rfl 4 (by decide) (hts (.fieldLink RX0 29 "KeySums$Summer" "c" "I") (by decide +kernel)) (fun _ h9 => h9) rfl (by decide +kernel) rfl rfl (Nat.le_of_ble_eq_true rfl) dX0_mixBlock_136 (fun H locs hP hD hS => ?_)
      have hP : va_P (dC, dI) vwCl [(h, .inr (0, [.ref w, .int nn, .int (v.1 + x.1), .int (v.2.1 + x.2.1), .int (v.2.2.1 + x.2.2.1), .int v.2.2.2])), (w, .inl (cI, 16, .inl wd))] H := hP
      have hD : va_D A [(h, .inr (0, [.ref w, .int nn, .int (v.1 + x.1), .int (v.2.1 + x.2.1), .int (v.2.2.1 + x.2.2.1), .int v.2.2.2])), (w, .inl (cI, 16, .inl wd))] := hD
      refine lv_aload_n hx hb dX0_mixBlock_139 rfl (lv_at hl 5 rfl) ?_
      refine lv_dup hx hb dX0_mixBlock_140 rfl ?_
      refine va_get (D := (dC, dI)) (ci := 0) (v := .int v.2.2.2) (C := RX0) (T := TX0) (N := 6) hx hb hts (by decide +kernel) hown hK hP 0 rfl rfl 5 (by decide) (hts (.fieldLink RX0 33 "KeySums$Summer" "d" "I") (by decide +kernel)) (fun _ h9 => h9) rfl dX0_mixBlock_141 ?_
      refine lv_iload hx hb dX0_mixBlock_144 (lv_at hl 1 rfl) ?_
      refine lv_iadd hx hb dX0_mixBlock_146 ?_
      refine va_put (D := (dC, dI)) (ci := 0) (v := .int (v.2.2.2 + x.2.2.2)) (ty := .int) (C := RX0) (T := TX0) (N := 6) hx hb hts (by decide +kernel) tyX0 tyX0_ok nmX0 hown hK hP hD hS 0 rfl rfl 5 (by decide) (hts (.fieldLink RX0 33 "KeySums$Summer" "d" "I") (by decide +kernel)) (fun _ h9 => h9) rfl (by decide +kernel) rfl rfl (Nat.le_of_ble_eq_true rfl) dX0_mixBlock_147 (fun H locs hP hD hS => ?_)
      have hP : va_P (dC, dI) vwCl [(h, .inr (0, [.ref w, .int nn, .int (v.1 + x.1), .int (v.2.1 + x.2.1), .int (v.2.2.1 + x.2.2.1), .int (v.2.2.2 + x.2.2.2)])), (w, .inl (cI, 16, .inl wd))] H := hP
      have hD : va_D A [(h, .inr (0, [.ref w, .int nn, .int (v.1 + x.1), .int (v.2.1 + x.2.1), .int (v.2.2.1 + x.2.2.1), .int (v.2.2.2 + x.2.2.2)])), (w, .inl (cI, 16, .inl wd))] := hD
      have hm : (v.1 + x.1, v.2.1 + x.2.1, v.2.2.1 + x.2.2.1, v.2.2.2 + x.2.2.2) = ks_mix wd v := by rw [hv]; rfl
      rw [← hm]
      have hP9 := hP.sub (ws' := [(h, .inr (0, [.ref w, .int nn, .int (v.1 + x.1), .int (v.2.1 + x.2.1), .int (v.2.2.1 + x.2.2.1), .int (v.2.2.2 + x.2.2.2)])), (w, .inl (cI, 16, .inl wd))]) [0, 1] rfl
      have hD9 := hD.sub (ws' := [(h, .inr (0, [.ref w, .int nn, .int (v.1 + x.1), .int (v.2.1 + x.2.1), .int (v.2.2.1 + x.2.2.1), .int (v.2.2.2 + x.2.2.2)])), (w, .inl (cI, 16, .inl wd))]) [0, 1] (by decide) rfl
      have hK9 := hK.sub (tys' := [(cI, .int)]) [0] rfl
      exact W.vret hx hb hr (fun t ht hW => ⟨⟨(), rfl, trivial, by rw [ht]; exact hP9, va_K.moved hW.alike hK9, hD9⟩, hS.F ht⟩) hS.2.2 dX0_mixBlock_150
    · skip
      exact absurd (nI_le (a := 64) (b := 64) (Nat.le_refl _) (by decide)) hc
end
section
set_option maxHeartbeats 4000000 in
set_option maxRecDepth 100000 in
/-- take: one byte more -/
theorem c_take (l : Launch) (dC : Nat → ClassId) (dI : Nat → Nat → Nat) (sz : Nat) (tS tT h w : Nat) (cI : ClassId) (n : Nat) (v : ks_Q) (wd f : Nat → Int32) (x : Int32) (hn : n + 1 < 2 ^ 31) (hi : ks_inv f n wd v) (hfx : f n &&& 255 = x &&& 255) : Met l yX0_take wsX0_take ({ frames := 2, cells := 0, slots := 0, locals := 60 }) (va_Pc [.ref h, .int x] (fun U => U.heap.size = sz ∧ va_P (dC, dI) vwCl [(h, .inr (0, [.ref w, .int (nI n), .int v.1, .int v.2.1, .int v.2.2.1, .int v.2.2.2])), (w, .inl (cI, 16, .inl wd))] U.heap ∧ va_K (dC, dI) vwCl [(cI, .int)] U ∧ va_D (fun _ => True) [(h, .inr (0, [.ref w, .int (nI n), .int v.1, .int v.2.1, .int v.2.2.1, .int v.2.2.2])), (w, .inl (cI, 16, .inl wd))] ∧ ks_tab tS tT (va_A [(h, .inr (0, [.ref w, .int (nI n), .int v.1, .int v.2.1, .int v.2.2.1, .int v.2.2.2])), (w, .inl (cI, 16, .inl wd))] sz) U U.heap)) (va_Qv (fun u : (Nat → Int32) × ks_Q => ks_inv f (n + 1) u.1 u.2) (fun (u : (Nat → Int32) × ks_Q) t => kz_B dC dI [(cI, .int)] (va_A [(h, .inr (0, [.ref w, .int (nI n), .int v.1, .int v.2.1, .int v.2.2.1, .int v.2.2.2])), (w, .inl (cI, 16, .inl wd))] sz) [(h, .inr (0, [.ref w, .int (nI (n + 1)), .int u.2.1, .int u.2.2.1, .int u.2.2.2.1, .int u.2.2.2.2])), (w, .inl (cI, 16, .inl u.1))] t) (va_A [(h, .inr (0, [.ref w, .int (nI n), .int v.1, .int v.2.1, .int v.2.2.1, .int v.2.2.2])), (w, .inl (cI, 16, .inl wd))] sz)) 0 0 (va_A [(h, .inr (0, [.ref w, .int (nI n), .int v.1, .int v.2.1, .int v.2.2.1, .int v.2.2.2])), (w, .inl (cI, 16, .inl wd))] sz) := by
  refine Met.ofW (cc := cX0_take) (maxL := 3) (ret := none) (by decide) rfl ?_
  intro p e s m args below meth c s₁ B hml hv
  obtain ⟨rfl, hsz, hP, hK, hD0, hT⟩ := hv
  have hx := B.exec
  have hb := B.bytes
  have hr := B.returns
  have hts := atoms_spec (ws := wsX0_take) B.pre
  have hown : s.vm.findClass RX0 = some m.cls := findClass_of_methodNamed B.named
  have hlocks := B.notSynchronized
  subst hsz
  have hD := hD0.self (sz := s.heap.size)
  generalize hAe : va_A [(h, .inr (0, [.ref w, .int (nI n), .int v.1, .int v.2.1, .int v.2.2.1, .int v.2.2.2])), (w, .inl (cI, 16, .inl wd))] s.heap.size = A at hD hT ⊢
  have hA : ∀ q : Nat, s.heap.size ≤ q → A q := fun q h => by rw [← hAe]; exact Or.inr h
  have hS : va_S A s.heap s.heap [] := va_S.rf
  have hP : va_P (dC, dI) vwCl [(h, .inr (0, [.ref w, .int (nI n), .int v.1, .int v.2.1, .int v.2.2.1, .int v.2.2.2])), (w, .inl (cI, 16, .inl wd))] s.heap := hP
  have hl := lv_entry ([.ref h, .int x]) (n := 3) (Nat.le_of_ble_eq_true rfl)
  rw [lg_entry_eq]
  generalize (lg_sl ([.ref h, .int x]) ++ List.replicate (3 - (lg_sl ([.ref h, .int x])).length) Slot.unset).toArray = ls at hl ⊢
  have hl : lv_has ls 3 [(0, .ref h), (1, .int x)] := hl
  refine lv_aload_n hx hb dX0_take_0 rfl (lv_at hl 0 rfl) ?_
  refine va_get (D := (dC, dI)) (ci := 0) (v := .int (nI n)) (C := RX0) (T := TX0) (N := 6) hx hb hts (by decide +kernel) hown hK hP 0 rfl rfl 1 (by decide) (hts (.fieldLink RX0 16 "KeySums$Summer" "count" "I") (by decide +kernel)) (fun _ h9 => h9) rfl dX0_take_1 ?_
  refine lv_bipush (v := 63) hx hb dX0_take_4 (by decide) ?_
  refine lv_iand hx hb dX0_take_6 ?_
  refine kz_top (y := nI (n % 64)) (pk_andN (by omega) 6 (by decide)) ?_
  refine lv_iconst (v := 2) hx hb dX0_take_7 (by decide) ?_
  refine lv_ishr hx hb dX0_take_8 ?_
  refine kz_top (y := nI (n % 64 / 4)) (pk_shrN (by omega) _ 2 (by decide)) ?_
  refine lv_istore_n (lv' := [(2, .int (nI (n % 64 / 4))), (0, .ref h), (1, .int x)]) hx hb dX0_take_9 rfl hl (by decide) rfl (fun ls hl => ?_)
  refine lv_aload_n hx hb dX0_take_10 rfl (lv_at hl 1 rfl) ?_
  refine va_get (D := (dC, dI)) (ci := 0) (v := .ref w) (C := RX0) (T := TX0) (N := 6) hx hb hts (by decide +kernel) hown hK hP 0 rfl rfl 0 (by decide) (hts (.fieldLink RX0 7 "KeySums$Summer" "words" "[I") (by decide +kernel)) (fun _ h9 => h9) rfl dX0_take_11 ?_
  refine lv_iload_n hx hb dX0_take_14 rfl (lv_at hl 0 rfl) ?_
  refine lv_aload_n hx hb dX0_take_15 rfl (lv_at hl 1 rfl) ?_
  refine va_get (D := (dC, dI)) (ci := 0) (v := .ref w) (C := RX0) (T := TX0) (N := 6) hx hb hts (by decide +kernel) hown hK hP 0 rfl rfl 0 (by decide) (hts (.fieldLink RX0 7 "KeySums$Summer" "words" "[I") (by decide +kernel)) (fun _ h9 => h9) rfl dX0_take_16 ?_
  refine lv_iload_n hx hb dX0_take_19 rfl (lv_at hl 0 rfl) ?_
  refine kz_iald (j := (n % 64 / 4)) hx hb hK hP 1 0 rfl rfl (show n % 64 / 4 < 16 by omega) (by decide) dX0_take_20 ?_
  refine lv_bipush (v := 8) hx hb dX0_take_21 (by decide) ?_
  refine lv_iushr (v := ks_us (wd (n % 64 / 4)) 8) hx hb dX0_take_23 rfl ?_
  refine lv_iload_n hx hb dX0_take_24 rfl (lv_at hl 2 rfl) ?_
  refine lv_bipush (v := 24) hx hb dX0_take_25 (by decide) ?_
  refine lv_ishl hx hb dX0_take_27 ?_
  refine lv_ior hx hb dX0_take_28 ?_
  refine kz_top (y := ks_push (wd (n % 64 / 4)) x) rfl ?_
  refine kz_iast (j := (n % 64 / 4)) hx hb hK hP hD hS 1 0 rfl rfl (show n % 64 / 4 < 16 by omega) (by decide) dX0_take_29 (fun H locs hP hD hS => ?_)
  have hP : va_P (dC, dI) vwCl [(h, .inr (0, [.ref w, .int (nI n), .int v.1, .int v.2.1, .int v.2.2.1, .int v.2.2.2])), (w, .inl (cI, 16, .inl (upd wd (n % 64 / 4) (ks_push (wd (n % 64 / 4)) x))))] H := hP
  have hD : va_D A [(h, .inr (0, [.ref w, .int (nI n), .int v.1, .int v.2.1, .int v.2.2.1, .int v.2.2.2])), (w, .inl (cI, 16, .inl (upd wd (n % 64 / 4) (ks_push (wd (n % 64 / 4)) x))))] := hD
  generalize hwd : upd wd (n % 64 / 4) (ks_push (wd (n % 64 / 4)) x) = wd1 at hP hD
  refine lv_aload_n hx hb dX0_take_30 rfl (lv_at hl 1 rfl) ?_
  refine lv_dup hx hb dX0_take_31 rfl ?_
  refine va_get (D := (dC, dI)) (ci := 0) (v := .int (nI n)) (C := RX0) (T := TX0) (N := 6) hx hb hts (by decide +kernel) hown hK hP 0 rfl rfl 1 (by decide) (hts (.fieldLink RX0 16 "KeySums$Summer" "count" "I") (by decide +kernel)) (fun _ h9 => h9) rfl dX0_take_32 ?_
  refine lv_iconst (v := 1) hx hb dX0_take_35 (by decide) ?_
  refine lv_iadd hx hb dX0_take_36 ?_
  refine kz_top (y := nI (n + 1)) (nI_1 n) ?_
  refine va_put (D := (dC, dI)) (ci := 0) (v := .int (nI (n + 1))) (ty := .int) (C := RX0) (T := TX0) (N := 6) hx hb hts (by decide +kernel) tyX0 tyX0_ok nmX0 hown hK hP hD hS 0 rfl rfl 1 (by decide) (hts (.fieldLink RX0 16 "KeySums$Summer" "count" "I") (by decide +kernel)) (fun _ h9 => h9) rfl (by decide +kernel) rfl rfl (Nat.le_of_ble_eq_true rfl) dX0_take_37 (fun H locs hP hD hS => ?_)
  have hP : va_P (dC, dI) vwCl [(h, .inr (0, [.ref w, .int (nI (n + 1)), .int v.1, .int v.2.1, .int v.2.2.1, .int v.2.2.2])), (w, .inl (cI, 16, .inl wd1))] H := hP
  have hD : va_D A [(h, .inr (0, [.ref w, .int (nI (n + 1)), .int v.1, .int v.2.1, .int v.2.2.1, .int v.2.2.2])), (w, .inl (cI, 16, .inl wd1))] := hD
  refine lv_aload_n hx hb dX0_take_40 rfl (lv_at hl 1 rfl) ?_
  refine va_get (D := (dC, dI)) (ci := 0) (v := .int (nI (n + 1))) (C := RX0) (T := TX0) (N := 6) hx hb hts (by decide +kernel) hown hK hP 0 rfl rfl 1 (by decide) (hts (.fieldLink RX0 16 "KeySums$Summer" "count" "I") (by decide +kernel)) (fun _ h9 => h9) rfl dX0_take_41 ?_
  refine lv_bipush (v := 63) hx hb dX0_take_44 (by decide) ?_
  refine lv_iand hx hb dX0_take_46 ?_
  refine kz_top (y := nI ((n + 1) % 64)) (pk_andN (by omega) 6 (by decide)) ?_
  refine lv_if_ne (tgt := 54) hx hb dX0_take_47 (by decide) (fun hc => ?_) (fun hc => ?_)
  · skip
    have hz : (n + 1) % 64 ≠ 0 := fun h => hc (by rw [h]; exact nI_0)
    have hi2 := ks_inv_put hi hfx hz
    rw [hwd] at hi2
    have hP9 := hP.sub (ws' := [(h, .inr (0, [.ref w, .int (nI (n + 1)), .int v.1, .int v.2.1, .int v.2.2.1, .int v.2.2.2])), (w, .inl (cI, 16, .inl wd1))]) [0, 1] rfl
    have hD9 := hD.sub (ws' := [(h, .inr (0, [.ref w, .int (nI (n + 1)), .int v.1, .int v.2.1, .int v.2.2.1, .int v.2.2.2])), (w, .inl (cI, 16, .inl wd1))]) [0, 1] (by decide) rfl
    have hK9 := hK.sub (tys' := [(cI, .int)]) [0] rfl
    exact W.vret hx hb hr (fun t ht hW => ⟨⟨(wd1, v), rfl, hi2, by rw [ht]; exact hP9, va_K.moved hW.alike hK9, hD9⟩, hS.F ht⟩) hS.2.2 dX0_take_54
  · skip
    have hz : (n + 1) % 64 = 0 := by
      rcases Nat.eq_zero_or_pos ((n + 1) % 64) with h | h
      · exact h
      · exact absurd hc (nI_ne0 h (by omega))
    have hi2 := ks_inv_full hi hfx hz
    rw [hwd] at hi2
    refine lv_aload_n hx hb dX0_take_50 rfl (lv_at hl 1 rfl) ?_
    have hPc := hP.sub (ws' := [(h, .inr (0, [.ref w, .int (nI (n + 1)), .int v.1, .int v.2.1, .int v.2.2.1, .int v.2.2.2])), (w, .inl (cI, 16, .inl wd1))]) [0, 1] rfl
    have hDc := hD.sub (ws' := [(h, .inr (0, [.ref w, .int (nI (n + 1)), .int v.1, .int v.2.1, .int v.2.2.1, .int v.2.2.2])), (w, .inl (cI, 16, .inl wd1))]) [0, 1] (by decide) rfl
    have hKc := hK.sub (tys' := [(cI, .int)]) [0] rfl
    have hFc := va_free (wc := [(h, .inr (0, [.ref w, .int (nI (n + 1)), .int v.1, .int v.2.1, .int v.2.2.1, .int v.2.2.2])), (w, .inl (cI, 16, .inl wd1))]) hD hS hA [0, 1] rfl
    refine va_callv (va_runV (As := []) (rest := []) ⟨hx, hb, hml, hown, hts⟩ (c_mixBlock l dC dI H.size tS tT h w cI (nI (n + 1)) v wd1) (cwV 0 hts gX0_take_X0_mixBlock rfl rfl rfl (by decide +kernel) ⟨Nat.le_of_ble_eq_true rfl, Nat.le_of_ble_eq_true rfl⟩) ⟨fun a U g mk q => by obtain ⟨q0, q1, qP, qK, qD, qx0⟩ := q; exact ⟨q0, q1, qP, va_K.moved (u := U) (U := U.calling g mk a) (Vm.Alike.refl U.vm) qK, qD, ks_tab.moved (u := U) (U := U.calling g mk a) (Vm.Alike.refl U.vm) qx0⟩, va_recv hKc hPc (ci := 0) (q0 := 0) rfl rfl, fun U hU hW => ⟨rfl, by rw [hU], by rw [hU]; exact hPc, va_K.moved hW.alike hKc, hDc.weaken (fun _ _ _ _ => trivial), hT.call hS hFc hU hW.alike⟩⟩ rfl rfl hl.1 rfl (lv_room (Nat.le_of_ble_eq_true rfl)) dX0_take_51 ⟨Nat.zero_le _, Nat.zero_le _⟩) hS (fun q _ h => hFc q h) hFc (fun u t H1 locs ht hvm hw hB hz1 hk1 hS => ?_)
    obtain ⟨hP1, hK1, hD1⟩ := hB
    rw [ht] at hP1
    have hK1 := va_K.moved hvm.symm hK1
    try dsimp only at hw
    obtain ⟨hP, hD⟩ := va_join (wr := []) (w1 := [(h, .inr (0, [.ref w, .int (nI (n + 1)), .int ((ks_mix wd1 v).1), .int ((ks_mix wd1 v).2.1), .int ((ks_mix wd1 v).2.2.1), .int ((ks_mix wd1 v).2.2.2)])), (w, .inl (cI, 16, .inl wd1))]) hP hD [0, 1] [] rfl rfl (by decide) (by decide) hk1 hFc hP1 hD1
    have hP := hP.sub (ws' := [(h, .inr (0, [.ref w, .int (nI (n + 1)), .int ((ks_mix wd1 v).1), .int ((ks_mix wd1 v).2.1), .int ((ks_mix wd1 v).2.2.1), .int ((ks_mix wd1 v).2.2.2)])), (w, .inl (cI, 16, .inl wd1))]) [0, 1] rfl
    have hD := hD.sub (ws' := [(h, .inr (0, [.ref w, .int (nI (n + 1)), .int ((ks_mix wd1 v).1), .int ((ks_mix wd1 v).2.1), .int ((ks_mix wd1 v).2.2.1), .int ((ks_mix wd1 v).2.2.2)])), (w, .inl (cI, 16, .inl wd1))]) [0, 1] (by decide) rfl
    generalize H1 = H at hP hS ⊢
    have hP : va_P (dC, dI) vwCl [(h, .inr (0, [.ref w, .int (nI (n + 1)), .int ((ks_mix wd1 v).1), .int ((ks_mix wd1 v).2.1), .int ((ks_mix wd1 v).2.2.1), .int ((ks_mix wd1 v).2.2.2)])), (w, .inl (cI, 16, .inl wd1))] H := hP
    have hD : va_D A [(h, .inr (0, [.ref w, .int (nI (n + 1)), .int ((ks_mix wd1 v).1), .int ((ks_mix wd1 v).2.1), .int ((ks_mix wd1 v).2.2.1), .int ((ks_mix wd1 v).2.2.2)])), (w, .inl (cI, 16, .inl wd1))] := hD
    have hP9 := hP.sub (ws' := [(h, .inr (0, [.ref w, .int (nI (n + 1)), .int ((ks_mix wd1 v).1), .int ((ks_mix wd1 v).2.1), .int ((ks_mix wd1 v).2.2.1), .int ((ks_mix wd1 v).2.2.2)])), (w, .inl (cI, 16, .inl wd1))]) [0, 1] rfl
    have hD9 := hD.sub (ws' := [(h, .inr (0, [.ref w, .int (nI (n + 1)), .int ((ks_mix wd1 v).1), .int ((ks_mix wd1 v).2.1), .int ((ks_mix wd1 v).2.2.1), .int ((ks_mix wd1 v).2.2.2)])), (w, .inl (cI, 16, .inl wd1))]) [0, 1] (by decide) rfl
    have hK9 := hK.sub (tys' := [(cI, .int)]) [0] rfl
    exact W.vret hx hb hr (fun t ht hW => ⟨⟨(wd1, ks_mix wd1 v), rfl, hi2, by rw [ht]; exact hP9, va_K.moved hW.alike hK9, hD9⟩, hS.F ht⟩) hS.2.2 dX0_take_54
end
section
theorem ks_wrap (n : Nat) : nI (n % 2 ^ 32) = nI n := by
  apply Int32.toBitVec_inj.mp
  show BitVec.ofNat 32 (n % 2 ^ 32) = BitVec.ofNat 32 n
  apply BitVec.eq_of_toNat_eq
  simp
theorem ks_zeros (n : Nat) (hn : n < 2 ^ 30) : (56 - nI (n + 1)) &&& 63 = nI (ks_end n - (n + 1)) := by
  have h0 : (56 : Int32) = nI (2 ^ 32 + 56) := by decide +kernel
  have h1 : (56 : Int32) - nI (n + 1) = nI (2 ^ 32 + 56 - (n + 1)) := by
    rw [h0]
    exact pk_sub (by omega)
  rw [h1, ← ks_wrap (2 ^ 32 + 56 - (n + 1)), pk_andN (Nat.mod_lt _ (by decide)) (m := 63) 6 (by decide)]
  congr 1
  unfold ks_end
  omega
theorem ks_len8 (f : Nat → Int32) {n i : Nat} (hn : 8 * n < 2 ^ 62) (hi : i < 8) : ks_pad f n (ks_end n + i) &&& 255 = (ks_usl (lN (8 * n)) (nI (8 * i))).toInt32 &&& 255 := by
  have he0 : n + 1 ≤ ks_end n := by unfold ks_end; omega
  have h1 : ks_pad f n (ks_end n + i) = nI (8 * n / 256 ^ i % 256) := by
    unfold ks_pad
    rw [if_neg (by omega), if_neg (by omega), if_neg (by omega), show ks_end n + i - ks_end n = i by omega]
  have h2 : ks_usl (lN (8 * n)) (nI (8 * i)) = lN (8 * n / 256 ^ i) := by
    have h3 := wb_shr (n := 8 * n) (k := 8 * i) (by omega) (by omega)
    rw [show (256 : Nat) = 2 ^ 8 from rfl, ← Nat.pow_mul]
    exact h3
  rw [h1, h2, lN_i, ← ks_wrap (8 * n / 256 ^ i), pk_andN (Nat.lt_of_lt_of_le (Nat.mod_lt _ (by decide)) (by decide)) (m := 255) 8 (by decide), pk_andN (Nat.mod_lt _ (by decide)) (m := 255) 8 (by decide)]
  congr 1
  omega
set_option maxHeartbeats 4000000 in
set_option maxRecDepth 100000 in
/-- close: the tail behind the bytes -/
theorem c_close (l : Launch) (dC : Nat → ClassId) (dI : Nat → Nat → Nat) (sz : Nat) (tS tT h w : Nat) (cI : ClassId) (n : Nat) (v : ks_Q) (wd f : Nat → Int32) (hn : n < 2 ^ 28) (hi : ks_inv f n wd v) : Met l yX0_close wsX0_close ({ frames := 3, cells := 0, slots := 0, locals := 100 }) (va_Pc [.ref h] (fun U => U.heap.size = sz ∧ va_P (dC, dI) vwCl [(h, .inr (0, [.ref w, .int (nI n), .int v.1, .int v.2.1, .int v.2.2.1, .int v.2.2.2])), (w, .inl (cI, 16, .inl wd))] U.heap ∧ va_K (dC, dI) vwCl [(cI, .int)] U ∧ va_D (fun _ => True) [(h, .inr (0, [.ref w, .int (nI n), .int v.1, .int v.2.1, .int v.2.2.1, .int v.2.2.2])), (w, .inl (cI, 16, .inl wd))] ∧ ks_tab tS tT (va_A [(h, .inr (0, [.ref w, .int (nI n), .int v.1, .int v.2.1, .int v.2.2.1, .int v.2.2.2])), (w, .inl (cI, 16, .inl wd))] sz) U U.heap)) (va_Qv (fun u : (Nat → Int32) × ks_Q => u.2 = ks_sum f n) (fun (u : (Nat → Int32) × ks_Q) t => kz_B dC dI [(cI, .int)] (va_A [(h, .inr (0, [.ref w, .int (nI n), .int v.1, .int v.2.1, .int v.2.2.1, .int v.2.2.2])), (w, .inl (cI, 16, .inl wd))] sz) [(h, .inr (0, [.ref w, .int (nI (ks_end n + 8)), .int u.2.1, .int u.2.2.1, .int u.2.2.2.1, .int u.2.2.2.2])), (w, .inl (cI, 16, .inl u.1))] t) (va_A [(h, .inr (0, [.ref w, .int (nI n), .int v.1, .int v.2.1, .int v.2.2.1, .int v.2.2.2])), (w, .inl (cI, 16, .inl wd))] sz)) 0 0 (va_A [(h, .inr (0, [.ref w, .int (nI n), .int v.1, .int v.2.1, .int v.2.2.1, .int v.2.2.2])), (w, .inl (cI, 16, .inl wd))] sz) := by
  refine Met.ofW (cc := cX0_close) (maxL := 5) (ret := none) (by decide) rfl ?_
  intro p e s m args below meth c s₁ B hml hv
  obtain ⟨rfl, hsz, hP, hK, hD0, hT⟩ := hv
  have hx := B.exec
  have hb := B.bytes
  have hr := B.returns
  have hts := atoms_spec (ws := wsX0_close) B.pre
  have hown : s.vm.findClass RX0 = some m.cls := findClass_of_methodNamed B.named
  have hlocks := B.notSynchronized
  subst hsz
  have hD := hD0.self (sz := s.heap.size)
  generalize hAe : va_A [(h, .inr (0, [.ref w, .int (nI n), .int v.1, .int v.2.1, .int v.2.2.1, .int v.2.2.2])), (w, .inl (cI, 16, .inl wd))] s.heap.size = A at hD hT ⊢
  have hA : ∀ q : Nat, s.heap.size ≤ q → A q := fun q h => by rw [← hAe]; exact Or.inr h
  have hS : va_S A s.heap s.heap [] := va_S.rf
  have hP : va_P (dC, dI) vwCl [(h, .inr (0, [.ref w, .int (nI n), .int v.1, .int v.2.1, .int v.2.2.1, .int v.2.2.2])), (w, .inl (cI, 16, .inl wd))] s.heap := hP
  have hl := lv_entry ([.ref h]) (n := 5) (Nat.le_of_ble_eq_true rfl)
  rw [lg_entry_eq]
  generalize (lg_sl ([.ref h]) ++ List.replicate (5 - (lg_sl ([.ref h])).length) Slot.unset).toArray = ls at hl ⊢
  have hl : lv_has ls 5 [(0, .ref h)] := hl
  have hi : ks_inv (ks_pad f n) n wd v := ks_inv_8 hi (fun j hj => by rw [show ks_pad f n j = f j from if_pos hj])
  have he0 : n + 1 ≤ ks_end n := by unfold ks_end; omega
  have he1 : ks_end n ≤ n + 64 := by unfold ks_end; omega
  have he2 : ks_end n % 64 = 56 := by unfold ks_end; omega
  refine lv_aload_n hx hb dX0_close_0 rfl (lv_at hl 0 rfl) ?_
  refine va_get (D := (dC, dI)) (ci := 0) (v := .int (nI n)) (C := RX0) (T := TX0) (N := 6) hx hb hts (by decide +kernel) hown hK hP 0 rfl rfl 1 (by decide) (hts (.fieldLink RX0 16 "KeySums$Summer" "count" "I") (by decide +kernel)) (fun _ h9 => h9) rfl dX0_close_1 ?_
  refine lv_i2l (v := lN n) hx hb dX0_close_4 (nI_l (by omega)) ?_
  refine lv_ldc2 (v := (8)) hx hb hown (hts (.constantLong RX0 39 (8)) (by decide +kernel)) dX0_close_5 ?_
  refine lv_lmul hx hb dX0_close_8 ?_
  refine kz_topl (y := lN (8 * n)) (by rw [Nat.mul_comm]; exact lN_mul n 8) ?_
  refine lv_lstore_n (lv' := [(1, .long (lN (8 * n))), (0, .ref h)]) hx hb dX0_close_9 rfl hl (by decide) rfl (fun ls hl => ?_)
  refine lv_aload_n hx hb dX0_close_10 rfl (lv_at hl 1 rfl) ?_
  refine lv_sipush (v := 128) hx hb dX0_close_11 (by decide) ?_
  have hPc := hP.sub (ws' := [(h, .inr (0, [.ref w, .int (nI n), .int v.1, .int v.2.1, .int v.2.2.1, .int v.2.2.2])), (w, .inl (cI, 16, .inl wd))]) [0, 1] rfl
  have hDc := hD.sub (ws' := [(h, .inr (0, [.ref w, .int (nI n), .int v.1, .int v.2.1, .int v.2.2.1, .int v.2.2.2])), (w, .inl (cI, 16, .inl wd))]) [0, 1] (by decide) rfl
  have hKc := hK.sub (tys' := [(cI, .int)]) [0] rfl
  have hFc := va_free (wc := [(h, .inr (0, [.ref w, .int (nI n), .int v.1, .int v.2.1, .int v.2.2.1, .int v.2.2.2])), (w, .inl (cI, 16, .inl wd))]) hD hS hA [0, 1] rfl
  refine va_callv (va_runV (As := [.int 128]) (rest := []) ⟨hx, hb, hml, hown, hts⟩ (c_take l dC dI s.heap.size tS tT h w cI n v wd (ks_pad f n) 128 (by omega) hi (by rw [show ks_pad f n n = 128 by unfold ks_pad; rw [if_neg (Nat.lt_irrefl n), if_pos rfl]])) (cwV 1 hts gX0_close_X0_take rfl rfl rfl (by decide +kernel) ⟨Nat.le_of_ble_eq_true rfl, Nat.le_of_ble_eq_true rfl⟩) ⟨fun a U g mk q => by obtain ⟨q0, q1, qP, qK, qD, qx0⟩ := q; exact ⟨q0, q1, qP, va_K.moved (u := U) (U := U.calling g mk a) (Vm.Alike.refl U.vm) qK, qD, ks_tab.moved (u := U) (U := U.calling g mk a) (Vm.Alike.refl U.vm) qx0⟩, va_recv hKc hPc (ci := 0) (q0 := 0) rfl rfl, fun U hU hW => ⟨rfl, by rw [hU], by rw [hU]; exact hPc, va_K.moved hW.alike hKc, hDc.weaken (fun _ _ _ _ => trivial), hT.call hS hFc hU hW.alike⟩⟩ rfl rfl hl.1 rfl (lv_room (Nat.le_of_ble_eq_true rfl)) dX0_close_14 ⟨Nat.zero_le _, Nat.zero_le _⟩) hS (fun q _ h => hFc q h) hFc (fun u t H1 locs ht hvm hw hB hz1 hk1 hS => ?_)
  obtain ⟨wd1, v1⟩ := u
  obtain ⟨hP1, hK1, hD1⟩ := hB
  rw [ht] at hP1
  have hK1 := va_K.moved hvm.symm hK1
  try dsimp only at hw
  obtain ⟨hP, hD⟩ := va_join (wr := []) (w1 := [(h, .inr (0, [.ref w, .int (nI (n + 1)), .int v1.1, .int v1.2.1, .int v1.2.2.1, .int v1.2.2.2])), (w, .inl (cI, 16, .inl wd1))]) hP hD [0, 1] [] rfl rfl (by decide) (by decide) hk1 hFc hP1 hD1
  have hP := hP.sub (ws' := [(h, .inr (0, [.ref w, .int (nI (n + 1)), .int v1.1, .int v1.2.1, .int v1.2.2.1, .int v1.2.2.2])), (w, .inl (cI, 16, .inl wd1))]) [0, 1] rfl
  have hD := hD.sub (ws' := [(h, .inr (0, [.ref w, .int (nI (n + 1)), .int v1.1, .int v1.2.1, .int v1.2.2.1, .int v1.2.2.2])), (w, .inl (cI, 16, .inl wd1))]) [0, 1] (by decide) rfl
  generalize H1 = H at hP hS ⊢
  have hP : va_P (dC, dI) vwCl [(h, .inr (0, [.ref w, .int (nI (n + 1)), .int v1.1, .int v1.2.1, .int v1.2.2.1, .int v1.2.2.2])), (w, .inl (cI, 16, .inl wd1))] H := hP
  have hD : va_D A [(h, .inr (0, [.ref w, .int (nI (n + 1)), .int v1.1, .int v1.2.1, .int v1.2.2.1, .int v1.2.2.2])), (w, .inl (cI, 16, .inl wd1))] := hD
  refine lv_bipush (v := 56) hx hb dX0_close_17 (by decide) ?_
  refine lv_aload_n hx hb dX0_close_19 rfl (lv_at hl 1 rfl) ?_
  refine va_get (D := (dC, dI)) (ci := 0) (v := .int (nI (n + 1))) (C := RX0) (T := TX0) (N := 6) hx hb hts (by decide +kernel) hown hK hP 0 rfl rfl 1 (by decide) (hts (.fieldLink RX0 16 "KeySums$Summer" "count" "I") (by decide +kernel)) (fun _ h9 => h9) rfl dX0_close_20 ?_
  refine lv_isub hx hb dX0_close_23 ?_
  refine lv_bipush (v := 63) hx hb dX0_close_24 (by decide) ?_
  refine lv_iand hx hb dX0_close_26 ?_
  refine kz_top (y := nI (ks_end n - (n + 1))) (ks_zeros n (by omega)) ?_
  refine lv_istore_n (lv' := [(3, .int (nI (ks_end n - (n + 1)))), (1, .long (lN (8 * n))), (0, .ref h)]) hx hb dX0_close_27 rfl hl (by decide) rfl (fun ls hl => ?_)
  refine lv_iconst (v := 0) hx hb dX0_close_28 (by decide) ?_
  refine kz_top (y := nI 0) nI_0.symm ?_
  refine lv_istore (lv' := [(4, .int (nI 0)), (3, .int (nI (ks_end n - (n + 1)))), (1, .long (lN (8 * n))), (0, .ref h)]) hx hb dX0_close_29 hl (by decide) rfl (fun ls hl => ?_)
  refine kz_loop (σ := (Nat → Int32) × ks_Q) (fun i x ls H locs => ks_inv (ks_pad f n) (n + 1 + i) x.1 x.2 ∧ lv_has ls 5 [(4, .int (nI i)), (3, .int (nI (ks_end n - (n + 1)))), (1, .long (lN (8 * n))), (0, .ref h)] ∧ va_P (dC, dI) vwCl [(h, .inr (0, [.ref w, .int (nI (n + 1 + i)), .int x.2.1, .int x.2.2.1, .int x.2.2.2.1, .int x.2.2.2.2])), (w, .inl (cI, 16, .inl x.1))] H ∧ va_D A [(h, .inr (0, [.ref w, .int (nI (n + 1 + i)), .int x.2.1, .int x.2.2.1, .int x.2.2.2.1, .int x.2.2.2.2])), (w, .inl (cI, 16, .inl x.1))] ∧ va_S A s.heap H locs) (ks_end n - (n + 1)) ?_ ?_ 0 (wd1, v1) ls _ _ (Nat.zero_le _) ⟨hw, hl, hP, hD, hS⟩
  · skip
    intro i x ls H locs hlt hI ih
    obtain ⟨hv, hl, hP, hD, hS⟩ := hI
    refine lv_iload hx hb dX0_close_31 (lv_at hl 0 rfl) ?_
    refine lv_iload_n hx hb dX0_close_33 rfl (lv_at hl 1 rfl) ?_
    refine lv_icmp_ge (tgt := 48) hx hb dX0_close_34 (by decide) (fun hc => ?_) (fun hc => ?_)
    · skip
      exact absurd hc (nI_ge hlt (by omega))
    · skip
      refine lv_aload_n hx hb dX0_close_37 rfl (lv_at hl 3 rfl) ?_
      refine lv_iconst (v := 0) hx hb dX0_close_38 (by decide) ?_
      have hPc := hP.sub (ws' := [(h, .inr (0, [.ref w, .int (nI (n + 1 + i)), .int x.2.1, .int x.2.2.1, .int x.2.2.2.1, .int x.2.2.2.2])), (w, .inl (cI, 16, .inl x.1))]) [0, 1] rfl
      have hDc := hD.sub (ws' := [(h, .inr (0, [.ref w, .int (nI (n + 1 + i)), .int x.2.1, .int x.2.2.1, .int x.2.2.2.1, .int x.2.2.2.2])), (w, .inl (cI, 16, .inl x.1))]) [0, 1] (by decide) rfl
      have hKc := hK.sub (tys' := [(cI, .int)]) [0] rfl
      have hFc := va_free (wc := [(h, .inr (0, [.ref w, .int (nI (n + 1 + i)), .int x.2.1, .int x.2.2.1, .int x.2.2.2.1, .int x.2.2.2.2])), (w, .inl (cI, 16, .inl x.1))]) hD hS hA [0, 1] rfl
      refine va_callv (va_runV (As := [.int 0]) (rest := []) ⟨hx, hb, hml, hown, hts⟩ (c_take l dC dI H.size tS tT h w cI (n + 1 + i) x.2 x.1 (ks_pad f n) 0 (by omega) hv (by rw [show ks_pad f n (n + 1 + i) = 0 by unfold ks_pad; rw [if_neg (by omega), if_neg (by omega), if_pos (by omega)]])) (cwV 1 hts gX0_close_X0_take rfl rfl rfl (by decide +kernel) ⟨Nat.le_of_ble_eq_true rfl, Nat.le_of_ble_eq_true rfl⟩) ⟨fun a U g mk q => by obtain ⟨q0, q1, qP, qK, qD, qx0⟩ := q; exact ⟨q0, q1, qP, va_K.moved (u := U) (U := U.calling g mk a) (Vm.Alike.refl U.vm) qK, qD, ks_tab.moved (u := U) (U := U.calling g mk a) (Vm.Alike.refl U.vm) qx0⟩, va_recv hKc hPc (ci := 0) (q0 := 0) rfl rfl, fun U hU hW => ⟨rfl, by rw [hU], by rw [hU]; exact hPc, va_K.moved hW.alike hKc, hDc.weaken (fun _ _ _ _ => trivial), hT.call hS hFc hU hW.alike⟩⟩ rfl rfl hl.1 rfl (lv_room (Nat.le_of_ble_eq_true rfl)) dX0_close_39 ⟨Nat.zero_le _, Nat.zero_le _⟩) hS (fun q _ h => hFc q h) hFc (fun u t H1 locs ht hvm hw hB hz1 hk1 hS => ?_)
      obtain ⟨wd2, v2⟩ := u
      obtain ⟨hP1, hK1, hD1⟩ := hB
      rw [ht] at hP1
      have hK1 := va_K.moved hvm.symm hK1
      try dsimp only at hw
      obtain ⟨hP, hD⟩ := va_join (wr := []) (w1 := [(h, .inr (0, [.ref w, .int (nI (n + 1 + i + 1)), .int v2.1, .int v2.2.1, .int v2.2.2.1, .int v2.2.2.2])), (w, .inl (cI, 16, .inl wd2))]) hP hD [0, 1] [] rfl rfl (by decide) (by decide) hk1 hFc hP1 hD1
      have hP := hP.sub (ws' := [(h, .inr (0, [.ref w, .int (nI (n + 1 + i + 1)), .int v2.1, .int v2.2.1, .int v2.2.2.1, .int v2.2.2.2])), (w, .inl (cI, 16, .inl wd2))]) [0, 1] rfl
      have hD := hD.sub (ws' := [(h, .inr (0, [.ref w, .int (nI (n + 1 + i + 1)), .int v2.1, .int v2.2.1, .int v2.2.2.1, .int v2.2.2.2])), (w, .inl (cI, 16, .inl wd2))]) [0, 1] (by decide) rfl
      generalize H1 = H at hP hS ⊢
      have hP : va_P (dC, dI) vwCl [(h, .inr (0, [.ref w, .int (nI (n + 1 + i + 1)), .int v2.1, .int v2.2.1, .int v2.2.2.1, .int v2.2.2.2])), (w, .inl (cI, 16, .inl wd2))] H := hP
      have hD : va_D A [(h, .inr (0, [.ref w, .int (nI (n + 1 + i + 1)), .int v2.1, .int v2.2.1, .int v2.2.2.1, .int v2.2.2.2])), (w, .inl (cI, 16, .inl wd2))] := hD
      refine lv_iinc (v := nI (i + 1)) (lv' := [(4, .int (nI (i + 1))), (3, .int (nI (ks_end n - (n + 1)))), (1, .long (lN (8 * n))), (0, .ref h)]) hx hb dX0_close_42 hl (k := 0) rfl (nI_1 i) (by decide) rfl (fun ls hl => ?_)
      refine lv_goto (tgt := 31) hx hb dX0_close_45 (by decide) ?_
      exact ih (wd2, v2) ls H locs ⟨hw, lv_sub hl [0, 1, 2, 3] rfl, hP, hD, hS⟩
  · skip
    intro x ls H locs hI
    obtain ⟨hv, hl, hP, hD, hS⟩ := hI
    refine lv_iload hx hb dX0_close_31 (lv_at hl 0 rfl) ?_
    refine lv_iload_n hx hb dX0_close_33 rfl (lv_at hl 1 rfl) ?_
    refine lv_icmp_ge (tgt := 48) hx hb dX0_close_34 (by decide) (fun hc => ?_) (fun hc => ?_)
    · skip
      rw [show n + 1 + (ks_end n - (n + 1)) = ks_end n by omega] at hv hP hD
      refine lv_iconst (v := 0) hx hb dX0_close_48 (by decide) ?_
      refine kz_top (y := nI 0) nI_0.symm ?_
      refine lv_istore (lv' := [(4, .int (nI 0)), (3, .int (nI (ks_end n - (n + 1)))), (1, .long (lN (8 * n))), (0, .ref h)]) hx hb dX0_close_49 hl (by decide) rfl (fun ls hl => ?_)
      refine kz_loop (σ := (Nat → Int32) × ks_Q) (fun i x ls H locs => ks_inv (ks_pad f n) (ks_end n + i) x.1 x.2 ∧ lv_has ls 5 [(4, .int (nI i)), (3, .int (nI (ks_end n - (n + 1)))), (1, .long (lN (8 * n))), (0, .ref h)] ∧ va_P (dC, dI) vwCl [(h, .inr (0, [.ref w, .int (nI (ks_end n + i)), .int x.2.1, .int x.2.2.1, .int x.2.2.2.1, .int x.2.2.2.2])), (w, .inl (cI, 16, .inl x.1))] H ∧ va_D A [(h, .inr (0, [.ref w, .int (nI (ks_end n + i)), .int x.2.1, .int x.2.2.1, .int x.2.2.2.1, .int x.2.2.2.2])), (w, .inl (cI, 16, .inl x.1))] ∧ va_S A s.heap H locs) 8 ?_ ?_ 0 x ls _ _ (Nat.zero_le _) ⟨hv, hl, hP, hD, hS⟩
      · skip
        intro i x ls H locs hlt hI ih
        obtain ⟨hv, hl, hP, hD, hS⟩ := hI
        refine lv_iload hx hb dX0_close_51 (lv_at hl 0 rfl) ?_
        refine lv_bipush (v := 8) hx hb dX0_close_53 (by decide) ?_
        refine lv_icmp_ge (tgt := 76) hx hb dX0_close_55 (by decide) (fun hc => ?_) (fun hc => ?_)
        · skip
          exact absurd hc (nI_ge (a := i) (b := 8) hlt (by decide))
        · skip
          refine lv_aload_n hx hb dX0_close_58 rfl (lv_at hl 3 rfl) ?_
          refine lv_lload_n hx hb dX0_close_59 rfl (lv_at hl 2 rfl) ?_
          refine lv_bipush (v := 8) hx hb dX0_close_60 (by decide) ?_
          refine lv_iload hx hb dX0_close_62 (lv_at hl 0 rfl) ?_
          refine lv_imul hx hb dX0_close_64 ?_
          refine kz_top (y := nI (8 * i)) (pk_mul 8 i) ?_
          refine lv_lushr (v := ks_usl (lN (8 * n)) (nI (8 * i))) hx hb dX0_close_65 rfl ?_
          refine lv_l2i (v := (ks_usl (lN (8 * n)) (nI (8 * i))).toInt32) hx hb dX0_close_66 rfl ?_
          have hPc := hP.sub (ws' := [(h, .inr (0, [.ref w, .int (nI (ks_end n + i)), .int x.2.1, .int x.2.2.1, .int x.2.2.2.1, .int x.2.2.2.2])), (w, .inl (cI, 16, .inl x.1))]) [0, 1] rfl
          have hDc := hD.sub (ws' := [(h, .inr (0, [.ref w, .int (nI (ks_end n + i)), .int x.2.1, .int x.2.2.1, .int x.2.2.2.1, .int x.2.2.2.2])), (w, .inl (cI, 16, .inl x.1))]) [0, 1] (by decide) rfl
          have hKc := hK.sub (tys' := [(cI, .int)]) [0] rfl
          have hFc := va_free (wc := [(h, .inr (0, [.ref w, .int (nI (ks_end n + i)), .int x.2.1, .int x.2.2.1, .int x.2.2.2.1, .int x.2.2.2.2])), (w, .inl (cI, 16, .inl x.1))]) hD hS hA [0, 1] rfl
          refine va_callv (va_runV (As := [.int ((ks_usl (lN (8 * n)) (nI (8 * i))).toInt32)]) (rest := []) ⟨hx, hb, hml, hown, hts⟩ (c_take l dC dI H.size tS tT h w cI (ks_end n + i) x.2 x.1 (ks_pad f n) ((ks_usl (lN (8 * n)) (nI (8 * i))).toInt32) (by omega) hv (ks_len8 f (by omega) hlt)) (cwV 1 hts gX0_close_X0_take rfl rfl rfl (by decide +kernel) ⟨Nat.le_of_ble_eq_true rfl, Nat.le_of_ble_eq_true rfl⟩) ⟨fun a U g mk q => by obtain ⟨q0, q1, qP, qK, qD, qx0⟩ := q; exact ⟨q0, q1, qP, va_K.moved (u := U) (U := U.calling g mk a) (Vm.Alike.refl U.vm) qK, qD, ks_tab.moved (u := U) (U := U.calling g mk a) (Vm.Alike.refl U.vm) qx0⟩, va_recv hKc hPc (ci := 0) (q0 := 0) rfl rfl, fun U hU hW => ⟨rfl, by rw [hU], by rw [hU]; exact hPc, va_K.moved hW.alike hKc, hDc.weaken (fun _ _ _ _ => trivial), hT.call hS hFc hU hW.alike⟩⟩ rfl rfl hl.1 rfl (lv_room (Nat.le_of_ble_eq_true rfl)) dX0_close_67 ⟨Nat.zero_le _, Nat.zero_le _⟩) hS (fun q _ h => hFc q h) hFc (fun u t H1 locs ht hvm hw hB hz1 hk1 hS => ?_)
          obtain ⟨wd2, v2⟩ := u
          obtain ⟨hP1, hK1, hD1⟩ := hB
          rw [ht] at hP1
          have hK1 := va_K.moved hvm.symm hK1
          try dsimp only at hw
          obtain ⟨hP, hD⟩ := va_join (wr := []) (w1 := [(h, .inr (0, [.ref w, .int (nI (ks_end n + i + 1)), .int v2.1, .int v2.2.1, .int v2.2.2.1, .int v2.2.2.2])), (w, .inl (cI, 16, .inl wd2))]) hP hD [0, 1] [] rfl rfl (by decide) (by decide) hk1 hFc hP1 hD1
          have hP := hP.sub (ws' := [(h, .inr (0, [.ref w, .int (nI (ks_end n + i + 1)), .int v2.1, .int v2.2.1, .int v2.2.2.1, .int v2.2.2.2])), (w, .inl (cI, 16, .inl wd2))]) [0, 1] rfl
          have hD := hD.sub (ws' := [(h, .inr (0, [.ref w, .int (nI (ks_end n + i + 1)), .int v2.1, .int v2.2.1, .int v2.2.2.1, .int v2.2.2.2])), (w, .inl (cI, 16, .inl wd2))]) [0, 1] (by decide) rfl
          generalize H1 = H at hP hS ⊢
          have hP : va_P (dC, dI) vwCl [(h, .inr (0, [.ref w, .int (nI (ks_end n + i + 1)), .int v2.1, .int v2.2.1, .int v2.2.2.1, .int v2.2.2.2])), (w, .inl (cI, 16, .inl wd2))] H := hP
          have hD : va_D A [(h, .inr (0, [.ref w, .int (nI (ks_end n + i + 1)), .int v2.1, .int v2.2.1, .int v2.2.2.1, .int v2.2.2.2])), (w, .inl (cI, 16, .inl wd2))] := hD
          refine lv_iinc (v := nI (i + 1)) (lv' := [(4, .int (nI (i + 1))), (3, .int (nI (ks_end n - (n + 1)))), (1, .long (lN (8 * n))), (0, .ref h)]) hx hb dX0_close_70 hl (k := 0) rfl (nI_1 i) (by decide) rfl (fun ls hl => ?_)
          refine lv_goto (tgt := 51) hx hb dX0_close_73 (by decide) ?_
          exact ih (wd2, v2) ls H locs ⟨hw, lv_sub hl [0, 1, 2, 3] rfl, hP, hD, hS⟩
      · skip
        intro x ls H locs hI
        obtain ⟨hv, hl, hP, hD, hS⟩ := hI
        refine lv_iload hx hb dX0_close_51 (lv_at hl 0 rfl) ?_
        refine lv_bipush (v := 8) hx hb dX0_close_53 (by decide) ?_
        refine lv_icmp_ge (tgt := 76) hx hb dX0_close_55 (by decide) (fun hc => ?_) (fun hc => ?_)
        · skip
          have hq : x.2 = ks_sum f n := by
            rw [hv.1, show (ks_end n + 8) / 64 = (n + 8) / 64 + 1 by unfold ks_end; omega]
            rfl
          have hP9 := hP.sub (ws' := [(h, .inr (0, [.ref w, .int (nI (ks_end n + 8)), .int x.2.1, .int x.2.2.1, .int x.2.2.2.1, .int x.2.2.2.2])), (w, .inl (cI, 16, .inl x.1))]) [0, 1] rfl
          have hD9 := hD.sub (ws' := [(h, .inr (0, [.ref w, .int (nI (ks_end n + 8)), .int x.2.1, .int x.2.2.1, .int x.2.2.2.1, .int x.2.2.2.2])), (w, .inl (cI, 16, .inl x.1))]) [0, 1] (by decide) rfl
          have hK9 := hK.sub (tys' := [(cI, .int)]) [0] rfl
          exact W.vret hx hb hr (fun t ht hW => ⟨⟨x, rfl, hq, by rw [ht]; exact hP9, va_K.moved hW.alike hK9, hD9⟩, hS.F ht⟩) hS.2.2 dX0_close_76
        · skip
          exact absurd (nI_le (a := 8) (b := 8) (Nat.le_refl _) (by decide)) hc
    · skip
      exact absurd (nI_le (Nat.le_refl _) (by omega)) hc
end
section
set_option maxHeartbeats 4000000 in
set_option maxRecDepth 100000 in
/-- restart -/
theorem c_restart (l : Launch) (dC : Nat → ClassId) (dI : Nat → Nat → Nat) (sz : Nat) (h w : Nat) (nn : Int32) (v : ks_Q) : Met l yX0_restart wsX0_restart ({ frames := 0, cells := 0, slots := 0, locals := 0 }) (va_Pc [.ref h] (fun U => U.heap.size = sz ∧ va_P (dC, dI) vwCl [(h, .inr (0, [.ref w, .int nn, .int v.1, .int v.2.1, .int v.2.2.1, .int v.2.2.2]))] U.heap ∧ va_K (dC, dI) vwCl [] U ∧ va_D (fun _ => True) [(h, .inr (0, [.ref w, .int nn, .int v.1, .int v.2.1, .int v.2.2.1, .int v.2.2.2]))])) (va_Qv (fun _u : Unit => True) (fun (_u : Unit) t => kz_B dC dI [] (va_A [(h, .inr (0, [.ref w, .int nn, .int v.1, .int v.2.1, .int v.2.2.1, .int v.2.2.2]))] sz) [(h, .inr (0, [.ref w, .int (nI 0), .int 1732584193, .int (-271733879), .int (-1732584194), .int 271733878]))] t) (va_A [(h, .inr (0, [.ref w, .int nn, .int v.1, .int v.2.1, .int v.2.2.1, .int v.2.2.2]))] sz)) 0 0 (va_A [(h, .inr (0, [.ref w, .int nn, .int v.1, .int v.2.1, .int v.2.2.1, .int v.2.2.2]))] sz) := by
  refine Met.ofW (cc := cX0_restart) (maxL := 1) (ret := none) (by decide) rfl ?_
  intro p e s m args below meth c s₁ B hml hv
  obtain ⟨rfl, hsz, hP, hK, hD0⟩ := hv
  have hx := B.exec
  have hb := B.bytes
  have hr := B.returns
  have hts := atoms_spec (ws := wsX0_restart) B.pre
  have hown : s.vm.findClass RX0 = some m.cls := findClass_of_methodNamed B.named
  have hlocks := B.notSynchronized
  subst hsz
  have hD := hD0.self (sz := s.heap.size)
  generalize hAe : va_A [(h, .inr (0, [.ref w, .int nn, .int v.1, .int v.2.1, .int v.2.2.1, .int v.2.2.2]))] s.heap.size = A at hD  ⊢
  have hA : ∀ q : Nat, s.heap.size ≤ q → A q := fun q h => by rw [← hAe]; exact Or.inr h
  have hS : va_S A s.heap s.heap [] := va_S.rf
  have hP : va_P (dC, dI) vwCl [(h, .inr (0, [.ref w, .int nn, .int v.1, .int v.2.1, .int v.2.2.1, .int v.2.2.2]))] s.heap := hP
  have hl := lv_entry ([.ref h]) (n := 1) (Nat.le_of_ble_eq_true rfl)
  rw [lg_entry_eq]
  generalize (lg_sl ([.ref h]) ++ List.replicate (1 - (lg_sl ([.ref h])).length) Slot.unset).toArray = ls at hl ⊢
  have hl : lv_has ls 1 [(0, .ref h)] := hl
  refine lv_aload_n hx hb dX0_restart_0 rfl (lv_at hl 0 rfl) ?_
  refine lv_iconst (v := 0) hx hb dX0_restart_1 (by decide) ?_
  refine kz_top (y := nI 0) nI_0.symm ?_
  refine va_put (D := (dC, dI)) (ci := 0) (v := .int (nI 0)) (ty := .int) (C := RX0) (T := TX0) (N := 6) hx hb hts (by decide +kernel) tyX0 tyX0_ok nmX0 hown hK hP hD hS 0 rfl rfl 1 (by decide) (hts (.fieldLink RX0 16 "KeySums$Summer" "count" "I") (by decide +kernel)) (fun _ h9 => h9) rfl (by decide +kernel) rfl rfl (Nat.le_of_ble_eq_true rfl) dX0_restart_2 (fun H locs hP hD hS => ?_)
  have hP : va_P (dC, dI) vwCl [(h, .inr (0, [.ref w, .int (nI 0), .int v.1, .int v.2.1, .int v.2.2.1, .int v.2.2.2]))] H := hP
  have hD : va_D A [(h, .inr (0, [.ref w, .int (nI 0), .int v.1, .int v.2.1, .int v.2.2.1, .int v.2.2.2]))] := hD
  refine lv_aload_n hx hb dX0_restart_5 rfl (lv_at hl 0 rfl) ?_
  refine lv_ldc (v := (1732584193)) hx hb hown (hts (.constant RX0 20 (1732584193)) (by decide +kernel)) dX0_restart_6 ?_
  refine va_put (D := (dC, dI)) (ci := 0) (v := .int (1732584193)) (ty := .int) (C := RX0) (T := TX0) (N := 6) hx hb hts (by decide +kernel) tyX0 tyX0_ok nmX0 hown hK hP hD hS 0 rfl rfl 2 (by decide) (hts (.fieldLink RX0 21 "KeySums$Summer" "a" "I") (by decide +kernel)) (fun _ h9 => h9) rfl (by decide +kernel) rfl rfl (Nat.le_of_ble_eq_true rfl) dX0_restart_8 (fun H locs hP hD hS => ?_)
  have hP : va_P (dC, dI) vwCl [(h, .inr (0, [.ref w, .int (nI 0), .int (1732584193), .int v.2.1, .int v.2.2.1, .int v.2.2.2]))] H := hP
  have hD : va_D A [(h, .inr (0, [.ref w, .int (nI 0), .int (1732584193), .int v.2.1, .int v.2.2.1, .int v.2.2.2]))] := hD
  refine lv_aload_n hx hb dX0_restart_11 rfl (lv_at hl 0 rfl) ?_
  refine lv_ldc (v := (-271733879)) hx hb hown (hts (.constant RX0 24 (-271733879)) (by decide +kernel)) dX0_restart_12 ?_
  refine va_put (D := (dC, dI)) (ci := 0) (v := .int (-271733879)) (ty := .int) (C := RX0) (T := TX0) (N := 6) hx hb hts (by decide +kernel) tyX0 tyX0_ok nmX0 hown hK hP hD hS 0 rfl rfl 3 (by decide) (hts (.fieldLink RX0 25 "KeySums$Summer" "b" "I") (by decide +kernel)) (fun _ h9 => h9) rfl (by decide +kernel) rfl rfl (Nat.le_of_ble_eq_true rfl) dX0_restart_14 (fun H locs hP hD hS => ?_)
  have hP : va_P (dC, dI) vwCl [(h, .inr (0, [.ref w, .int (nI 0), .int (1732584193), .int (-271733879), .int v.2.2.1, .int v.2.2.2]))] H := hP
  have hD : va_D A [(h, .inr (0, [.ref w, .int (nI 0), .int (1732584193), .int (-271733879), .int v.2.2.1, .int v.2.2.2]))] := hD
  refine lv_aload_n hx hb dX0_restart_17 rfl (lv_at hl 0 rfl) ?_
  refine lv_ldc (v := (-1732584194)) hx hb hown (hts (.constant RX0 28 (-1732584194)) (by decide +kernel)) dX0_restart_18 ?_
  refine va_put (D := (dC, dI)) (ci := 0) (v := .int (-1732584194)) (ty := .int) (C := RX0) (T := TX0) (N := 6) hx hb hts (by decide +kernel) tyX0 tyX0_ok nmX0 hown hK hP hD hS 0 rfl rfl 4 (by decide) (hts (.fieldLink RX0 29 "KeySums$Summer" "c" "I") (by decide +kernel)) (fun _ h9 => h9) rfl (by decide +kernel) rfl rfl (Nat.le_of_ble_eq_true rfl) dX0_restart_20 (fun H locs hP hD hS => ?_)
  have hP : va_P (dC, dI) vwCl [(h, .inr (0, [.ref w, .int (nI 0), .int (1732584193), .int (-271733879), .int (-1732584194), .int v.2.2.2]))] H := hP
  have hD : va_D A [(h, .inr (0, [.ref w, .int (nI 0), .int (1732584193), .int (-271733879), .int (-1732584194), .int v.2.2.2]))] := hD
  refine lv_aload_n hx hb dX0_restart_23 rfl (lv_at hl 0 rfl) ?_
  refine lv_ldc (v := (271733878)) hx hb hown (hts (.constant RX0 32 (271733878)) (by decide +kernel)) dX0_restart_24 ?_
  refine va_put (D := (dC, dI)) (ci := 0) (v := .int (271733878)) (ty := .int) (C := RX0) (T := TX0) (N := 6) hx hb hts (by decide +kernel) tyX0 tyX0_ok nmX0 hown hK hP hD hS 0 rfl rfl 5 (by decide) (hts (.fieldLink RX0 33 "KeySums$Summer" "d" "I") (by decide +kernel)) (fun _ h9 => h9) rfl (by decide +kernel) rfl rfl (Nat.le_of_ble_eq_true rfl) dX0_restart_26 (fun H locs hP hD hS => ?_)
  have hP : va_P (dC, dI) vwCl [(h, .inr (0, [.ref w, .int (nI 0), .int (1732584193), .int (-271733879), .int (-1732584194), .int (271733878)]))] H := hP
  have hD : va_D A [(h, .inr (0, [.ref w, .int (nI 0), .int (1732584193), .int (-271733879), .int (-1732584194), .int (271733878)]))] := hD
  have hP9 := hP.sub (ws' := [(h, .inr (0, [.ref w, .int (nI 0), .int (1732584193), .int (-271733879), .int (-1732584194), .int (271733878)]))]) [0] rfl
  have hD9 := hD.sub (ws' := [(h, .inr (0, [.ref w, .int (nI 0), .int (1732584193), .int (-271733879), .int (-1732584194), .int (271733878)]))]) [0] (by decide) rfl
  have hK9 := hK.sub (tys' := []) [] rfl
  exact W.vret hx hb hr (fun t ht hW => ⟨⟨(), rfl, trivial, by rw [ht]; exact hP9, va_K.moved hW.alike hK9, hD9⟩, hS.F ht⟩) hS.2.2 dX0_restart_29

/-- four bytes, the highest first, from place k on -/
def ks_wr (ft : Nat → Int32) (k : Nat) (x : Int32) : Nat → Int32 := upd (upd (upd (upd ft k (ks_us x 24).toInt8.toInt32) (k + 1) (ks_us x 16).toInt8.toInt32) (k + 2) (ks_us x 8).toInt8.toInt32) (k + 3) x.toInt8.toInt32

set_option maxHeartbeats 4000000 in
set_option maxRecDepth 100000 in
/-- writeNumber -/
theorem c_writeNumber (l : Launch) (dC : Nat → ClassId) (dI : Nat → Nat → Nat) (sz : Nat) (h qt qk qs qm : Nat) (cT : ClassId) (tn hs : Int32) (ft : Nat → Int32) (k : Nat) (x : Int32) (hk : k + 4 ≤ 2000) : Met l yX1_writeNumber wsX1_writeNumber ({ frames := 0, cells := 0, slots := 0, locals := 0 }) (va_Pc [.ref h, .int (nI k), .int x] (fun U => U.heap.size = sz ∧ va_P (dC, dI) vwCl [(h, .inr (1, [.ref qt, .int tn, .ref qk, .ref qs, .ref qm, .int hs])), (qt, .inl (cT, 2000, .inl ft))] U.heap ∧ va_K (dC, dI) vwCl [(cT, .byte)] U ∧ va_D (fun _ => True) [(h, .inr (1, [.ref qt, .int tn, .ref qk, .ref qs, .ref qm, .int hs])), (qt, .inl (cT, 2000, .inl ft))])) (va_Qv (fun _u : Unit => True) (fun (_u : Unit) t => kz_B dC dI [(cT, .byte)] (va_A [(h, .inr (1, [.ref qt, .int tn, .ref qk, .ref qs, .ref qm, .int hs])), (qt, .inl (cT, 2000, .inl ft))] sz) [(h, .inr (1, [.ref qt, .int tn, .ref qk, .ref qs, .ref qm, .int hs])), (qt, .inl (cT, 2000, .inl (ks_wr ft k x)))] t) (va_A [(h, .inr (1, [.ref qt, .int tn, .ref qk, .ref qs, .ref qm, .int hs])), (qt, .inl (cT, 2000, .inl ft))] sz)) 0 0 (va_A [(h, .inr (1, [.ref qt, .int tn, .ref qk, .ref qs, .ref qm, .int hs])), (qt, .inl (cT, 2000, .inl ft))] sz) := by
  refine Met.ofW (cc := cX1_writeNumber) (maxL := 3) (ret := none) (by decide) rfl ?_
  intro p e s m args below meth c s₁ B hml hv
  obtain ⟨rfl, hsz, hP, hK, hD0⟩ := hv
  have hx := B.exec
  have hb := B.bytes
  have hr := B.returns
  have hts := atoms_spec (ws := wsX1_writeNumber) B.pre
  have hown : s.vm.findClass RX1 = some m.cls := findClass_of_methodNamed B.named
  have hlocks := B.notSynchronized
  subst hsz
  have hD := hD0.self (sz := s.heap.size)
  generalize hAe : va_A [(h, .inr (1, [.ref qt, .int tn, .ref qk, .ref qs, .ref qm, .int hs])), (qt, .inl (cT, 2000, .inl ft))] s.heap.size = A at hD  ⊢
  have hA : ∀ q : Nat, s.heap.size ≤ q → A q := fun q h => by rw [← hAe]; exact Or.inr h
  have hS : va_S A s.heap s.heap [] := va_S.rf
  have hP : va_P (dC, dI) vwCl [(h, .inr (1, [.ref qt, .int tn, .ref qk, .ref qs, .ref qm, .int hs])), (qt, .inl (cT, 2000, .inl ft))] s.heap := hP
  have hl := lv_entry ([.ref h, .int (nI k), .int x]) (n := 3) (Nat.le_of_ble_eq_true rfl)
  rw [lg_entry_eq]
  generalize (lg_sl ([.ref h, .int (nI k), .int x]) ++ List.replicate (3 - (lg_sl ([.ref h, .int (nI k), .int x])).length) Slot.unset).toArray = ls at hl ⊢
  have hl : lv_has ls 3 [(0, .ref h), (1, .int (nI k)), (2, .int x)] := hl
  refine lv_aload_n hx hb dX1_writeNumber_0 rfl (lv_at hl 0 rfl) ?_
  refine va_get (D := (dC, dI)) (ci := 1) (v := .ref qt) (C := RX1) (T := TX1) (N := 6) hx hb hts (by decide +kernel) hown hK hP 0 rfl rfl 0 (by decide) (hts (.fieldLink RX1 9 "KeySums" "tape" "[B") (by decide +kernel)) (fun _ h9 => h9) rfl dX1_writeNumber_1 ?_
  refine lv_iload_n hx hb dX1_writeNumber_4 rfl (lv_at hl 1 rfl) ?_
  refine lv_iload_n hx hb dX1_writeNumber_5 rfl (lv_at hl 2 rfl) ?_
  refine lv_bipush (v := 24) hx hb dX1_writeNumber_6 (by decide) ?_
  refine lv_iushr (v := ks_us x 24) hx hb dX1_writeNumber_8 rfl ?_
  refine lv_i2b (v := (ks_us x 24).toInt8.toInt32) hx hb dX1_writeNumber_9 rfl ?_
  refine kz_bast (j := k) (x := (ks_us x 24).toInt8.toInt32) (x2 := (ks_us x 24).toInt8.toInt32) hx hb hK hP hD hS 1 0 rfl rfl (show k < 2000 by omega) (by decide) (pk_vb _) dX1_writeNumber_10 (fun H locs hP hD hS => ?_)
  have hP : va_P (dC, dI) vwCl [(h, .inr (1, [.ref qt, .int tn, .ref qk, .ref qs, .ref qm, .int hs])), (qt, .inl (cT, 2000, .inl (upd ft k ((ks_us x 24).toInt8.toInt32))))] H := hP
  have hD : va_D A [(h, .inr (1, [.ref qt, .int tn, .ref qk, .ref qs, .ref qm, .int hs])), (qt, .inl (cT, 2000, .inl (upd ft k ((ks_us x 24).toInt8.toInt32))))] := hD
  refine lv_aload_n hx hb dX1_writeNumber_11 rfl (lv_at hl 0 rfl) ?_
  refine va_get (D := (dC, dI)) (ci := 1) (v := .ref qt) (C := RX1) (T := TX1) (N := 6) hx hb hts (by decide +kernel) hown hK hP 0 rfl rfl 0 (by decide) (hts (.fieldLink RX1 9 "KeySums" "tape" "[B") (by decide +kernel)) (fun _ h9 => h9) rfl dX1_writeNumber_12 ?_
  refine lv_iload_n hx hb dX1_writeNumber_15 rfl (lv_at hl 1 rfl) ?_
  refine lv_iconst (v := 1) hx hb dX1_writeNumber_16 (by decide) ?_
  refine lv_iadd hx hb dX1_writeNumber_17 ?_
  refine kz_top (y := nI (k + 1)) (nI_1 k) ?_
  refine lv_iload_n hx hb dX1_writeNumber_18 rfl (lv_at hl 2 rfl) ?_
  refine lv_bipush (v := 16) hx hb dX1_writeNumber_19 (by decide) ?_
  refine lv_iushr (v := ks_us x 16) hx hb dX1_writeNumber_21 rfl ?_
  refine lv_i2b (v := (ks_us x 16).toInt8.toInt32) hx hb dX1_writeNumber_22 rfl ?_
  refine kz_bast (j := (k + 1)) (x := (ks_us x 16).toInt8.toInt32) (x2 := (ks_us x 16).toInt8.toInt32) hx hb hK hP hD hS 1 0 rfl rfl (show k + 1 < 2000 by omega) (by decide) (pk_vb _) dX1_writeNumber_23 (fun H locs hP hD hS => ?_)
  have hP : va_P (dC, dI) vwCl [(h, .inr (1, [.ref qt, .int tn, .ref qk, .ref qs, .ref qm, .int hs])), (qt, .inl (cT, 2000, .inl (upd (upd ft k ((ks_us x 24).toInt8.toInt32)) (k + 1) ((ks_us x 16).toInt8.toInt32))))] H := hP
  have hD : va_D A [(h, .inr (1, [.ref qt, .int tn, .ref qk, .ref qs, .ref qm, .int hs])), (qt, .inl (cT, 2000, .inl (upd (upd ft k ((ks_us x 24).toInt8.toInt32)) (k + 1) ((ks_us x 16).toInt8.toInt32))))] := hD
  refine lv_aload_n hx hb dX1_writeNumber_24 rfl (lv_at hl 0 rfl) ?_
  refine va_get (D := (dC, dI)) (ci := 1) (v := .ref qt) (C := RX1) (T := TX1) (N := 6) hx hb hts (by decide +kernel) hown hK hP 0 rfl rfl 0 (by decide) (hts (.fieldLink RX1 9 "KeySums" "tape" "[B") (by decide +kernel)) (fun _ h9 => h9) rfl dX1_writeNumber_25 ?_
  refine lv_iload_n hx hb dX1_writeNumber_28 rfl (lv_at hl 1 rfl) ?_
  refine lv_iconst (v := 2) hx hb dX1_writeNumber_29 (by decide) ?_
  refine lv_iadd hx hb dX1_writeNumber_30 ?_
  refine kz_top (y := nI (k + 2)) (nI_add k 2) ?_
  refine lv_iload_n hx hb dX1_writeNumber_31 rfl (lv_at hl 2 rfl) ?_
  refine lv_bipush (v := 8) hx hb dX1_writeNumber_32 (by decide) ?_
  refine lv_iushr (v := ks_us x 8) hx hb dX1_writeNumber_34 rfl ?_
  refine lv_i2b (v := (ks_us x 8).toInt8.toInt32) hx hb dX1_writeNumber_35 rfl ?_
  refine kz_bast (j := (k + 2)) (x := (ks_us x 8).toInt8.toInt32) (x2 := (ks_us x 8).toInt8.toInt32) hx hb hK hP hD hS 1 0 rfl rfl (show k + 2 < 2000 by omega) (by decide) (pk_vb _) dX1_writeNumber_36 (fun H locs hP hD hS => ?_)
  have hP : va_P (dC, dI) vwCl [(h, .inr (1, [.ref qt, .int tn, .ref qk, .ref qs, .ref qm, .int hs])), (qt, .inl (cT, 2000, .inl (upd (upd (upd ft k ((ks_us x 24).toInt8.toInt32)) (k + 1) ((ks_us x 16).toInt8.toInt32)) (k + 2) ((ks_us x 8).toInt8.toInt32))))] H := hP
  have hD : va_D A [(h, .inr (1, [.ref qt, .int tn, .ref qk, .ref qs, .ref qm, .int hs])), (qt, .inl (cT, 2000, .inl (upd (upd (upd ft k ((ks_us x 24).toInt8.toInt32)) (k + 1) ((ks_us x 16).toInt8.toInt32)) (k + 2) ((ks_us x 8).toInt8.toInt32))))] := hD
  refine lv_aload_n hx hb dX1_writeNumber_37 rfl (lv_at hl 0 rfl) ?_
  refine va_get (D := (dC, dI)) (ci := 1) (v := .ref qt) (C := RX1) (T := TX1) (N := 6) hx hb hts (by decide +kernel) hown hK hP 0 rfl rfl 0 (by decide) (hts (.fieldLink RX1 9 "KeySums" "tape" "[B") (by decide +kernel)) (fun _ h9 => h9) rfl dX1_writeNumber_38 ?_
  refine lv_iload_n hx hb dX1_writeNumber_41 rfl (lv_at hl 1 rfl) ?_
  refine lv_iconst (v := 3) hx hb dX1_writeNumber_42 (by decide) ?_
  refine lv_iadd hx hb dX1_writeNumber_43 ?_
  refine kz_top (y := nI (k + 3)) (nI_add k 3) ?_
  refine lv_iload_n hx hb dX1_writeNumber_44 rfl (lv_at hl 2 rfl) ?_
  refine lv_i2b (v := x.toInt8.toInt32) hx hb dX1_writeNumber_45 rfl ?_
  refine kz_bast (j := (k + 3)) (x := x.toInt8.toInt32) (x2 := x.toInt8.toInt32) hx hb hK hP hD hS 1 0 rfl rfl (show k + 3 < 2000 by omega) (by decide) (pk_vb _) dX1_writeNumber_46 (fun H locs hP hD hS => ?_)
  have hP : va_P (dC, dI) vwCl [(h, .inr (1, [.ref qt, .int tn, .ref qk, .ref qs, .ref qm, .int hs])), (qt, .inl (cT, 2000, .inl (upd (upd (upd (upd ft k ((ks_us x 24).toInt8.toInt32)) (k + 1) ((ks_us x 16).toInt8.toInt32)) (k + 2) ((ks_us x 8).toInt8.toInt32)) (k + 3) x.toInt8.toInt32)))] H := hP
  have hD : va_D A [(h, .inr (1, [.ref qt, .int tn, .ref qk, .ref qs, .ref qm, .int hs])), (qt, .inl (cT, 2000, .inl (upd (upd (upd (upd ft k ((ks_us x 24).toInt8.toInt32)) (k + 1) ((ks_us x 16).toInt8.toInt32)) (k + 2) ((ks_us x 8).toInt8.toInt32)) (k + 3) x.toInt8.toInt32)))] := hD
  have hP9 := hP.sub (ws' := [(h, .inr (1, [.ref qt, .int tn, .ref qk, .ref qs, .ref qm, .int hs])), (qt, .inl (cT, 2000, .inl (ks_wr ft k x)))]) [0, 1] rfl
  have hD9 := hD.sub (ws' := [(h, .inr (1, [.ref qt, .int tn, .ref qk, .ref qs, .ref qm, .int hs])), (qt, .inl (cT, 2000, .inl (ks_wr ft k x)))]) [0, 1] (by decide) rfl
  have hK9 := hK.sub (tys' := [(cT, .byte)]) [0] rfl
  exact W.vret hx hb hr (fun t ht hW => ⟨⟨(), rfl, trivial, by rw [ht]; exact hP9, va_K.moved hW.alike hK9, hD9⟩, hS.F ht⟩) hS.2.2 dX1_writeNumber_47

set_option maxHeartbeats 4000000 in
set_option maxRecDepth 100000 in
/-- feed, the tape too full -/
theorem c_feed_no (l : Launch) (dC : Nat → ClassId) (dI : Nat → Nat → Nat) (sz : Nat) (h qt qk qs qm : Nat) (cT : ClassId) (tn : Nat) (hs : Int32) (ft : Nat → Int32) (xa xb xc xd xe : Int32) (h1 : 1980 < tn) (h2 : tn ≤ 2000) : Met l yX1_feed wsX1_feed ({ frames := 1, cells := 0, slots := 0, locals := 40 }) (va_Pc [.ref h, .int xa, .int xb, .int xc, .int xd, .int xe] (fun U => U.heap.size = sz ∧ va_P (dC, dI) vwCl [(h, .inr (1, [.ref qt, .int (nI tn), .ref qk, .ref qs, .ref qm, .int hs])), (qt, .inl (cT, 2000, .inl ft))] U.heap ∧ va_K (dC, dI) vwCl [(cT, .byte)] U ∧ va_D (fun _ => True) [(h, .inr (1, [.ref qt, .int (nI tn), .ref qk, .ref qs, .ref qm, .int hs])), (qt, .inl (cT, 2000, .inl ft))])) (va_Qi (fun (r : Int32) (_u : Unit) => r = 0) (fun (_u : Unit) t => kz_B dC dI [(cT, .byte)] (va_A [(h, .inr (1, [.ref qt, .int (nI tn), .ref qk, .ref qs, .ref qm, .int hs])), (qt, .inl (cT, 2000, .inl ft))] sz) [(h, .inr (1, [.ref qt, .int (nI tn), .ref qk, .ref qs, .ref qm, .int hs])), (qt, .inl (cT, 2000, .inl ft))] t) (va_A [(h, .inr (1, [.ref qt, .int (nI tn), .ref qk, .ref qs, .ref qm, .int hs])), (qt, .inl (cT, 2000, .inl ft))] sz)) 0 0 (va_A [(h, .inr (1, [.ref qt, .int (nI tn), .ref qk, .ref qs, .ref qm, .int hs])), (qt, .inl (cT, 2000, .inl ft))] sz) := by
  refine Met.ofW (cc := cX1_feed) (maxL := 6) (ret := (some .boolean)) (by decide) rfl ?_
  intro p e s m args below meth c s₁ B hml hv
  obtain ⟨rfl, hsz, hP, hK, hD0⟩ := hv
  have hx := B.exec
  have hb := B.bytes
  have hr := B.returns
  have hts := atoms_spec (ws := wsX1_feed) B.pre
  have hown : s.vm.findClass RX1 = some m.cls := findClass_of_methodNamed B.named
  have hlocks := B.notSynchronized
  subst hsz
  have hD := hD0.self (sz := s.heap.size)
  generalize hAe : va_A [(h, .inr (1, [.ref qt, .int (nI tn), .ref qk, .ref qs, .ref qm, .int hs])), (qt, .inl (cT, 2000, .inl ft))] s.heap.size = A at hD  ⊢
  have hA : ∀ q : Nat, s.heap.size ≤ q → A q := fun q h => by rw [← hAe]; exact Or.inr h
  have hS : va_S A s.heap s.heap [] := va_S.rf
  have hP : va_P (dC, dI) vwCl [(h, .inr (1, [.ref qt, .int (nI tn), .ref qk, .ref qs, .ref qm, .int hs])), (qt, .inl (cT, 2000, .inl ft))] s.heap := hP
  have hl := lv_entry ([.ref h, .int xa, .int xb, .int xc, .int xd, .int xe]) (n := 6) (Nat.le_of_ble_eq_true rfl)
  rw [lg_entry_eq]
  generalize (lg_sl ([.ref h, .int xa, .int xb, .int xc, .int xd, .int xe]) ++ List.replicate (6 - (lg_sl ([.ref h, .int xa, .int xb, .int xc, .int xd, .int xe])).length) Slot.unset).toArray = ls at hl ⊢
  have hl : lv_has ls 6 [(0, .ref h), (1, .int xa), (2, .int xb), (3, .int xc), (4, .int xd), (5, .int xe)] := hl
  refine lv_aload_n hx hb dX1_feed_0 rfl (lv_at hl 0 rfl) ?_
  refine va_get (D := (dC, dI)) (ci := 1) (v := .int (nI tn)) (C := RX1) (T := TX1) (N := 6) hx hb hts (by decide +kernel) hown hK hP 0 rfl rfl 1 (by decide) (hts (.fieldLink RX1 13 "KeySums" "tapeSize" "I") (by decide +kernel)) (fun _ h9 => h9) rfl dX1_feed_1 ?_
  refine lv_sipush (v := 1980) hx hb dX1_feed_4 (by decide) ?_
  refine lv_icmp_le (tgt := 12) hx hb dX1_feed_7 (by decide) (fun hc => ?_) (fun hc => ?_)
  · skip
    exact absurd hc (nI_ge (a := 1980) (b := tn) h1 (by omega))
  · skip
    refine lv_iconst (v := 0) hx hb dX1_feed_10 (by decide) ?_
    have hP9 := hP.sub (ws' := [(h, .inr (1, [.ref qt, .int (nI tn), .ref qk, .ref qs, .ref qm, .int hs])), (qt, .inl (cT, 2000, .inl ft))]) [0, 1] rfl
    have hD9 := hD.sub (ws' := [(h, .inr (1, [.ref qt, .int (nI tn), .ref qk, .ref qs, .ref qm, .int hs])), (qt, .inl (cT, 2000, .inl ft))]) [0, 1] (by decide) rfl
    have hK9 := hK.sub (tys' := [(cT, .byte)]) [0] rfl
    exact W.zret (v := 0) (ty := .boolean) hx hb hr (by rfl) (fun t ht hW => ⟨⟨0, (), rfl, rfl, by rw [ht]; exact hP9, va_K.moved hW.alike hK9, hD9⟩, hS.F ht⟩) hS.2.2 dX1_feed_11

set_option maxHeartbeats 4000000 in
set_option maxRecDepth 100000 in
/-- feed -/
theorem c_feed_ok (l : Launch) (dC : Nat → ClassId) (dI : Nat → Nat → Nat) (sz : Nat) (h qt qk qs qm : Nat) (cT : ClassId) (tn : Nat) (hs : Int32) (ft : Nat → Int32) (xa xb xc xd xe : Int32) (h1 : tn ≤ 1980) : Met l yX1_feed wsX1_feed ({ frames := 1, cells := 0, slots := 0, locals := 40 }) (va_Pc [.ref h, .int xa, .int xb, .int xc, .int xd, .int xe] (fun U => U.heap.size = sz ∧ va_P (dC, dI) vwCl [(h, .inr (1, [.ref qt, .int (nI tn), .ref qk, .ref qs, .ref qm, .int hs])), (qt, .inl (cT, 2000, .inl ft))] U.heap ∧ va_K (dC, dI) vwCl [(cT, .byte)] U ∧ va_D (fun _ => True) [(h, .inr (1, [.ref qt, .int (nI tn), .ref qk, .ref qs, .ref qm, .int hs])), (qt, .inl (cT, 2000, .inl ft))])) (va_Qi (fun (r : Int32) (_u : Unit) => r = 1) (fun (_u : Unit) t => kz_B dC dI [(cT, .byte)] (va_A [(h, .inr (1, [.ref qt, .int (nI tn), .ref qk, .ref qs, .ref qm, .int hs])), (qt, .inl (cT, 2000, .inl ft))] sz) [(h, .inr (1, [.ref qt, .int (nI (tn + 20)), .ref qk, .ref qs, .ref qm, .int hs])), (qt, .inl (cT, 2000, .inl (ks_wr (ks_wr (ks_wr (ks_wr (ks_wr ft tn xa) (tn + 4) xb) (tn + 8) xc) (tn + 12) xd) (tn + 16) xe)))] t) (va_A [(h, .inr (1, [.ref qt, .int (nI tn), .ref qk, .ref qs, .ref qm, .int hs])), (qt, .inl (cT, 2000, .inl ft))] sz)) 0 0 (va_A [(h, .inr (1, [.ref qt, .int (nI tn), .ref qk, .ref qs, .ref qm, .int hs])), (qt, .inl (cT, 2000, .inl ft))] sz) := by
  refine Met.ofW (cc := cX1_feed) (maxL := 6) (ret := (some .boolean)) (by decide) rfl ?_
  intro p e s m args below meth c s₁ B hml hv
  obtain ⟨rfl, hsz, hP, hK, hD0⟩ := hv
  have hx := B.exec
  have hb := B.bytes
  have hr := B.returns
  have hts := atoms_spec (ws := wsX1_feed) B.pre
  have hown : s.vm.findClass RX1 = some m.cls := findClass_of_methodNamed B.named
  have hlocks := B.notSynchronized
  subst hsz
  have hD := hD0.self (sz := s.heap.size)
  generalize hAe : va_A [(h, .inr (1, [.ref qt, .int (nI tn), .ref qk, .ref qs, .ref qm, .int hs])), (qt, .inl (cT, 2000, .inl ft))] s.heap.size = A at hD  ⊢
  have hA : ∀ q : Nat, s.heap.size ≤ q → A q := fun q h => by rw [← hAe]; exact Or.inr h
  have hS : va_S A s.heap s.heap [] := va_S.rf
  have hP : va_P (dC, dI) vwCl [(h, .inr (1, [.ref qt, .int (nI tn), .ref qk, .ref qs, .ref qm, .int hs])), (qt, .inl (cT, 2000, .inl ft))] s.heap := hP
  have hl := lv_entry ([.ref h, .int xa, .int xb, .int xc, .int xd, .int xe]) (n := 6) (Nat.le_of_ble_eq_true rfl)
  rw [lg_entry_eq]
  generalize (lg_sl ([.ref h, .int xa, .int xb, .int xc, .int xd, .int xe]) ++ List.replicate (6 - (lg_sl ([.ref h, .int xa, .int xb, .int xc, .int xd, .int xe])).length) Slot.unset).toArray = ls at hl ⊢
  have hl : lv_has ls 6 [(0, .ref h), (1, .int xa), (2, .int xb), (3, .int xc), (4, .int xd), (5, .int xe)] := hl
  refine lv_aload_n hx hb dX1_feed_0 rfl (lv_at hl 0 rfl) ?_
  refine va_get (D := (dC, dI)) (ci := 1) (v := .int (nI tn)) (C := RX1) (T := TX1) (N := 6) hx hb hts (by decide +kernel) hown hK hP 0 rfl rfl 1 (by decide) (hts (.fieldLink RX1 13 "KeySums" "tapeSize" "I") (by decide +kernel)) (fun _ h9 => h9) rfl dX1_feed_1 ?_
  refine lv_sipush (v := 1980) hx hb dX1_feed_4 (by decide) ?_
  refine lv_icmp_le (tgt := 12) hx hb dX1_feed_7 (by decide) (fun hc => ?_) (fun hc => ?_)
  · skip
    refine lv_aload_n hx hb dX1_feed_12 rfl (lv_at hl 0 rfl) ?_
    refine lv_aload_n hx hb dX1_feed_13 rfl (lv_at hl 0 rfl) ?_
    refine va_get (D := (dC, dI)) (ci := 1) (v := .int (nI tn)) (C := RX1) (T := TX1) (N := 6) hx hb hts (by decide +kernel) hown hK hP 0 rfl rfl 1 (by decide) (hts (.fieldLink RX1 13 "KeySums" "tapeSize" "I") (by decide +kernel)) (fun _ h9 => h9) rfl dX1_feed_14 ?_
    refine lv_iload_n hx hb dX1_feed_17 rfl (lv_at hl 1 rfl) ?_
    have ho0 : tn + 4 ≤ 2000 := by omega
    have hPc := hP.sub (ws' := [(h, .inr (1, [.ref qt, .int (nI tn), .ref qk, .ref qs, .ref qm, .int hs])), (qt, .inl (cT, 2000, .inl ft))]) [0, 1] rfl
    have hDc := hD.sub (ws' := [(h, .inr (1, [.ref qt, .int (nI tn), .ref qk, .ref qs, .ref qm, .int hs])), (qt, .inl (cT, 2000, .inl ft))]) [0, 1] (by decide) rfl
    have hKc := hK.sub (tys' := [(cT, .byte)]) [0] rfl
    have hFc := va_free (wc := [(h, .inr (1, [.ref qt, .int (nI tn), .ref qk, .ref qs, .ref qm, .int hs])), (qt, .inl (cT, 2000, .inl ft))]) hD hS hA [0, 1] rfl
    refine va_callv (va_runV (As := [.int (nI tn), .int xa]) (rest := []) ⟨hx, hb, hml, hown, hts⟩ (c_writeNumber l dC dI s.heap.size h qt qk qs qm cT (nI tn) hs ft tn xa ho0) (cwV 2 hts gX1_feed_X1_writeNumber rfl rfl rfl (by decide +kernel) ⟨Nat.le_of_ble_eq_true rfl, Nat.le_of_ble_eq_true rfl⟩) ⟨fun a U g mk q => by obtain ⟨q0, q1, qP, qK, qD⟩ := q; exact ⟨q0, q1, qP, va_K.moved (u := U) (U := U.calling g mk a) (Vm.Alike.refl U.vm) qK, qD⟩, va_recv hKc hPc (ci := 1) (q0 := 0) rfl rfl, fun U hU hW => ⟨rfl, by rw [hU], by rw [hU]; exact hPc, va_K.moved hW.alike hKc, hDc.weaken (fun _ _ _ _ => trivial)⟩⟩ rfl rfl hl.1 rfl (lv_room (Nat.le_of_ble_eq_true rfl)) dX1_feed_18 ⟨Nat.zero_le _, Nat.zero_le _⟩) hS (fun q _ h => hFc q h) hFc (fun u t H1 locs ht hvm hw hB hz1 hk1 hS => ?_)
    obtain ⟨hP1, hK1, hD1⟩ := hB
    rw [ht] at hP1
    have hK1 := va_K.moved hvm.symm hK1
    try dsimp only at hw
    obtain ⟨hP, hD⟩ := va_join (wr := []) (w1 := [(h, .inr (1, [.ref qt, .int (nI tn), .ref qk, .ref qs, .ref qm, .int hs])), (qt, .inl (cT, 2000, .inl (ks_wr ft tn xa)))]) hP hD [0, 1] [] rfl rfl (by decide) (by decide) hk1 hFc hP1 hD1
    have hP := hP.sub (ws' := [(h, .inr (1, [.ref qt, .int (nI tn), .ref qk, .ref qs, .ref qm, .int hs])), (qt, .inl (cT, 2000, .inl (ks_wr ft tn xa)))]) [0, 1] rfl
    have hD := hD.sub (ws' := [(h, .inr (1, [.ref qt, .int (nI tn), .ref qk, .ref qs, .ref qm, .int hs])), (qt, .inl (cT, 2000, .inl (ks_wr ft tn xa)))]) [0, 1] (by decide) rfl
    generalize H1 = H at hP hS ⊢
    have hP : va_P (dC, dI) vwCl [(h, .inr (1, [.ref qt, .int (nI tn), .ref qk, .ref qs, .ref qm, .int hs])), (qt, .inl (cT, 2000, .inl (ks_wr ft tn xa)))] H := hP
    have hD : va_D A [(h, .inr (1, [.ref qt, .int (nI tn), .ref qk, .ref qs, .ref qm, .int hs])), (qt, .inl (cT, 2000, .inl (ks_wr ft tn xa)))] := hD
    refine lv_aload_n hx hb dX1_feed_21 rfl (lv_at hl 0 rfl) ?_
    refine lv_aload_n hx hb dX1_feed_22 rfl (lv_at hl 0 rfl) ?_
    refine va_get (D := (dC, dI)) (ci := 1) (v := .int (nI tn)) (C := RX1) (T := TX1) (N := 6) hx hb hts (by decide +kernel) hown hK hP 0 rfl rfl 1 (by decide) (hts (.fieldLink RX1 13 "KeySums" "tapeSize" "I") (by decide +kernel)) (fun _ h9 => h9) rfl dX1_feed_23 ?_
    refine lv_iconst (v := 4) hx hb dX1_feed_26 (by decide) ?_
    refine lv_iadd hx hb dX1_feed_27 ?_
    refine kz_top (y := nI (tn + 4)) (nI_add tn 4) ?_
    refine lv_iload_n hx hb dX1_feed_28 rfl (lv_at hl 2 rfl) ?_
    have ho1 : (tn + 4) + 4 ≤ 2000 := by omega
    have hPc := hP.sub (ws' := [(h, .inr (1, [.ref qt, .int (nI tn), .ref qk, .ref qs, .ref qm, .int hs])), (qt, .inl (cT, 2000, .inl (ks_wr ft tn xa)))]) [0, 1] rfl
    have hDc := hD.sub (ws' := [(h, .inr (1, [.ref qt, .int (nI tn), .ref qk, .ref qs, .ref qm, .int hs])), (qt, .inl (cT, 2000, .inl (ks_wr ft tn xa)))]) [0, 1] (by decide) rfl
    have hKc := hK.sub (tys' := [(cT, .byte)]) [0] rfl
    have hFc := va_free (wc := [(h, .inr (1, [.ref qt, .int (nI tn), .ref qk, .ref qs, .ref qm, .int hs])), (qt, .inl (cT, 2000, .inl (ks_wr ft tn xa)))]) hD hS hA [0, 1] rfl
    refine va_callv (va_runV (As := [.int (nI (tn + 4)), .int xb]) (rest := []) ⟨hx, hb, hml, hown, hts⟩ (c_writeNumber l dC dI H.size h qt qk qs qm cT (nI tn) hs (ks_wr ft tn xa) (tn + 4) xb ho1) (cwV 2 hts gX1_feed_X1_writeNumber rfl rfl rfl (by decide +kernel) ⟨Nat.le_of_ble_eq_true rfl, Nat.le_of_ble_eq_true rfl⟩) ⟨fun a U g mk q => by obtain ⟨q0, q1, qP, qK, qD⟩ := q; exact ⟨q0, q1, qP, va_K.moved (u := U) (U := U.calling g mk a) (Vm.Alike.refl U.vm) qK, qD⟩, va_recv hKc hPc (ci := 1) (q0 := 0) rfl rfl, fun U hU hW => ⟨rfl, by rw [hU], by rw [hU]; exact hPc, va_K.moved hW.alike hKc, hDc.weaken (fun _ _ _ _ => trivial)⟩⟩ rfl rfl hl.1 rfl (lv_room (Nat.le_of_ble_eq_true rfl)) dX1_feed_29 ⟨Nat.zero_le _, Nat.zero_le _⟩) hS (fun q _ h => hFc q h) hFc (fun u t H1 locs ht hvm hw hB hz1 hk1 hS => ?_)
    obtain ⟨hP1, hK1, hD1⟩ := hB
    rw [ht] at hP1
    have hK1 := va_K.moved hvm.symm hK1
    try dsimp only at hw
    obtain ⟨hP, hD⟩ := va_join (wr := []) (w1 := [(h, .inr (1, [.ref qt, .int (nI tn), .ref qk, .ref qs, .ref qm, .int hs])), (qt, .inl (cT, 2000, .inl (ks_wr (ks_wr ft tn xa) (tn + 4) xb)))]) hP hD [0, 1] [] rfl rfl (by decide) (by decide) hk1 hFc hP1 hD1
    have hP := hP.sub (ws' := [(h, .inr (1, [.ref qt, .int (nI tn), .ref qk, .ref qs, .ref qm, .int hs])), (qt, .inl (cT, 2000, .inl (ks_wr (ks_wr ft tn xa) (tn + 4) xb)))]) [0, 1] rfl
    have hD := hD.sub (ws' := [(h, .inr (1, [.ref qt, .int (nI tn), .ref qk, .ref qs, .ref qm, .int hs])), (qt, .inl (cT, 2000, .inl (ks_wr (ks_wr ft tn xa) (tn + 4) xb)))]) [0, 1] (by decide) rfl
    generalize H1 = H at hP hS ⊢
    have hP : va_P (dC, dI) vwCl [(h, .inr (1, [.ref qt, .int (nI tn), .ref qk, .ref qs, .ref qm, .int hs])), (qt, .inl (cT, 2000, .inl (ks_wr (ks_wr ft tn xa) (tn + 4) xb)))] H := hP
    have hD : va_D A [(h, .inr (1, [.ref qt, .int (nI tn), .ref qk, .ref qs, .ref qm, .int hs])), (qt, .inl (cT, 2000, .inl (ks_wr (ks_wr ft tn xa) (tn + 4) xb)))] := hD
    refine lv_aload_n hx hb dX1_feed_32 rfl (lv_at hl 0 rfl) ?_
    refine lv_aload_n hx hb dX1_feed_33 rfl (lv_at hl 0 rfl) ?_
    refine va_get (D := (dC, dI)) (ci := 1) (v := .int (nI tn)) (C := RX1) (T := TX1) (N := 6) hx hb hts (by decide +kernel) hown hK hP 0 rfl rfl 1 (by decide) (hts (.fieldLink RX1 13 "KeySums" "tapeSize" "I") (by decide +kernel)) (fun _ h9 => h9) rfl dX1_feed_34 ?_
    refine lv_bipush (v := 8) hx hb dX1_feed_37 (by decide) ?_
    refine lv_iadd hx hb dX1_feed_39 ?_
    refine kz_top (y := nI (tn + 8)) (nI_add tn 8) ?_
    refine lv_iload_n hx hb dX1_feed_40 rfl (lv_at hl 3 rfl) ?_
    have ho2 : (tn + 8) + 4 ≤ 2000 := by omega
    have hPc := hP.sub (ws' := [(h, .inr (1, [.ref qt, .int (nI tn), .ref qk, .ref qs, .ref qm, .int hs])), (qt, .inl (cT, 2000, .inl (ks_wr (ks_wr ft tn xa) (tn + 4) xb)))]) [0, 1] rfl
    have hDc := hD.sub (ws' := [(h, .inr (1, [.ref qt, .int (nI tn), .ref qk, .ref qs, .ref qm, .int hs])), (qt, .inl (cT, 2000, .inl (ks_wr (ks_wr ft tn xa) (tn + 4) xb)))]) [0, 1] (by decide) rfl
    have hKc := hK.sub (tys' := [(cT, .byte)]) [0] rfl
    have hFc := va_free (wc := [(h, .inr (1, [.ref qt, .int (nI tn), .ref qk, .ref qs, .ref qm, .int hs])), (qt, .inl (cT, 2000, .inl (ks_wr (ks_wr ft tn xa) (tn + 4) xb)))]) hD hS hA [0, 1] rfl
    refine va_callv (va_runV (As := [.int (nI (tn + 8)), .int xc]) (rest := []) ⟨hx, hb, hml, hown, hts⟩ (c_writeNumber l dC dI H.size h qt qk qs qm cT (nI tn) hs (ks_wr (ks_wr ft tn xa) (tn + 4) xb) (tn + 8) xc ho2) (cwV 2 hts gX1_feed_X1_writeNumber rfl rfl rfl (by decide +kernel) ⟨Nat.le_of_ble_eq_true rfl, Nat.le_of_ble_eq_true rfl⟩) ⟨fun a U g mk q => by obtain ⟨q0, q1, qP, qK, qD⟩ := q; exact ⟨q0, q1, qP, va_K.moved (u := U) (U := U.calling g mk a) (Vm.Alike.refl U.vm) qK, qD⟩, va_recv hKc hPc (ci := 1) (q0 := 0) rfl rfl, fun U hU hW => ⟨rfl, by rw [hU], by rw [hU]; exact hPc, va_K.moved hW.alike hKc, hDc.weaken (fun _ _ _ _ => trivial)⟩⟩ rfl rfl hl.1 rfl (lv_room (Nat.le_of_ble_eq_true rfl)) dX1_feed_41 ⟨Nat.zero_le _, Nat.zero_le _⟩) hS (fun q _ h => hFc q h) hFc (fun u t H1 locs ht hvm hw hB hz1 hk1 hS => ?_)
    obtain ⟨hP1, hK1, hD1⟩ := hB
    rw [ht] at hP1
    have hK1 := va_K.moved hvm.symm hK1
    try dsimp only at hw
    obtain ⟨hP, hD⟩ := va_join (wr := []) (w1 := [(h, .inr (1, [.ref qt, .int (nI tn), .ref qk, .ref qs, .ref qm, .int hs])), (qt, .inl (cT, 2000, .inl (ks_wr (ks_wr (ks_wr ft tn xa) (tn + 4) xb) (tn + 8) xc)))]) hP hD [0, 1] [] rfl rfl (by decide) (by decide) hk1 hFc hP1 hD1
    have hP := hP.sub (ws' := [(h, .inr (1, [.ref qt, .int (nI tn), .ref qk, .ref qs, .ref qm, .int hs])), (qt, .inl (cT, 2000, .inl (ks_wr (ks_wr (ks_wr ft tn xa) (tn + 4) xb) (tn + 8) xc)))]) [0, 1] rfl
    have hD := hD.sub (ws' := [(h, .inr (1, [.ref qt, .int (nI tn), .ref qk, .ref qs, .ref qm, .int hs])), (qt, .inl (cT, 2000, .inl (ks_wr (ks_wr (ks_wr ft tn xa) (tn + 4) xb) (tn + 8) xc)))]) [0, 1] (by decide) rfl
    generalize H1 = H at hP hS ⊢
    have hP : va_P (dC, dI) vwCl [(h, .inr (1, [.ref qt, .int (nI tn), .ref qk, .ref qs, .ref qm, .int hs])), (qt, .inl (cT, 2000, .inl (ks_wr (ks_wr (ks_wr ft tn xa) (tn + 4) xb) (tn + 8) xc)))] H := hP
    have hD : va_D A [(h, .inr (1, [.ref qt, .int (nI tn), .ref qk, .ref qs, .ref qm, .int hs])), (qt, .inl (cT, 2000, .inl (ks_wr (ks_wr (ks_wr ft tn xa) (tn + 4) xb) (tn + 8) xc)))] := hD
    refine lv_aload_n hx hb dX1_feed_44 rfl (lv_at hl 0 rfl) ?_
    refine lv_aload_n hx hb dX1_feed_45 rfl (lv_at hl 0 rfl) ?_
    refine va_get (D := (dC, dI)) (ci := 1) (v := .int (nI tn)) (C := RX1) (T := TX1) (N := 6) hx hb hts (by decide +kernel) hown hK hP 0 rfl rfl 1 (by decide) (hts (.fieldLink RX1 13 "KeySums" "tapeSize" "I") (by decide +kernel)) (fun _ h9 => h9) rfl dX1_feed_46 ?_
    refine lv_bipush (v := 12) hx hb dX1_feed_49 (by decide) ?_
    refine lv_iadd hx hb dX1_feed_51 ?_
    refine kz_top (y := nI (tn + 12)) (nI_add tn 12) ?_
    refine lv_iload hx hb dX1_feed_52 (lv_at hl 4 rfl) ?_
    have ho3 : (tn + 12) + 4 ≤ 2000 := by omega
    have hPc := hP.sub (ws' := [(h, .inr (1, [.ref qt, .int (nI tn), .ref qk, .ref qs, .ref qm, .int hs])), (qt, .inl (cT, 2000, .inl (ks_wr (ks_wr (ks_wr ft tn xa) (tn + 4) xb) (tn + 8) xc)))]) [0, 1] rfl
    have hDc := hD.sub (ws' := [(h, .inr (1, [.ref qt, .int (nI tn), .ref qk, .ref qs, .ref qm, .int hs])), (qt, .inl (cT, 2000, .inl (ks_wr (ks_wr (ks_wr ft tn xa) (tn + 4) xb) (tn + 8) xc)))]) [0, 1] (by decide) rfl
    have hKc := hK.sub (tys' := [(cT, .byte)]) [0] rfl
    have hFc := va_free (wc := [(h, .inr (1, [.ref qt, .int (nI tn), .ref qk, .ref qs, .ref qm, .int hs])), (qt, .inl (cT, 2000, .inl (ks_wr (ks_wr (ks_wr ft tn xa) (tn + 4) xb) (tn + 8) xc)))]) hD hS hA [0, 1] rfl
    refine va_callv (va_runV (As := [.int (nI (tn + 12)), .int xd]) (rest := []) ⟨hx, hb, hml, hown, hts⟩ (c_writeNumber l dC dI H.size h qt qk qs qm cT (nI tn) hs (ks_wr (ks_wr (ks_wr ft tn xa) (tn + 4) xb) (tn + 8) xc) (tn + 12) xd ho3) (cwV 2 hts gX1_feed_X1_writeNumber rfl rfl rfl (by decide +kernel) ⟨Nat.le_of_ble_eq_true rfl, Nat.le_of_ble_eq_true rfl⟩) ⟨fun a U g mk q => by obtain ⟨q0, q1, qP, qK, qD⟩ := q; exact ⟨q0, q1, qP, va_K.moved (u := U) (U := U.calling g mk a) (Vm.Alike.refl U.vm) qK, qD⟩, va_recv hKc hPc (ci := 1) (q0 := 0) rfl rfl, fun U hU hW => ⟨rfl, by rw [hU], by rw [hU]; exact hPc, va_K.moved hW.alike hKc, hDc.weaken (fun _ _ _ _ => trivial)⟩⟩ rfl rfl hl.1 rfl (lv_room (Nat.le_of_ble_eq_true rfl)) dX1_feed_54 ⟨Nat.zero_le _, Nat.zero_le _⟩) hS (fun q _ h => hFc q h) hFc (fun u t H1 locs ht hvm hw hB hz1 hk1 hS => ?_)
    obtain ⟨hP1, hK1, hD1⟩ := hB
    rw [ht] at hP1
    have hK1 := va_K.moved hvm.symm hK1
    try dsimp only at hw
    obtain ⟨hP, hD⟩ := va_join (wr := []) (w1 := [(h, .inr (1, [.ref qt, .int (nI tn), .ref qk, .ref qs, .ref qm, .int hs])), (qt, .inl (cT, 2000, .inl (ks_wr (ks_wr (ks_wr (ks_wr ft tn xa) (tn + 4) xb) (tn + 8) xc) (tn + 12) xd)))]) hP hD [0, 1] [] rfl rfl (by decide) (by decide) hk1 hFc hP1 hD1
    have hP := hP.sub (ws' := [(h, .inr (1, [.ref qt, .int (nI tn), .ref qk, .ref qs, .ref qm, .int hs])), (qt, .inl (cT, 2000, .inl (ks_wr (ks_wr (ks_wr (ks_wr ft tn xa) (tn + 4) xb) (tn + 8) xc) (tn + 12) xd)))]) [0, 1] rfl
    have hD := hD.sub (ws' := [(h, .inr (1, [.ref qt, .int (nI tn), .ref qk, .ref qs, .ref qm, .int hs])), (qt, .inl (cT, 2000, .inl (ks_wr (ks_wr (ks_wr (ks_wr ft tn xa) (tn + 4) xb) (tn + 8) xc) (tn + 12) xd)))]) [0, 1] (by decide) rfl
    generalize H1 = H at hP hS ⊢
    have hP : va_P (dC, dI) vwCl [(h, .inr (1, [.ref qt, .int (nI tn), .ref qk, .ref qs, .ref qm, .int hs])), (qt, .inl (cT, 2000, .inl (ks_wr (ks_wr (ks_wr (ks_wr ft tn xa) (tn + 4) xb) (tn + 8) xc) (tn + 12) xd)))] H := hP
    have hD : va_D A [(h, .inr (1, [.ref qt, .int (nI tn), .ref qk, .ref qs, .ref qm, .int hs])), (qt, .inl (cT, 2000, .inl (ks_wr (ks_wr (ks_wr (ks_wr ft tn xa) (tn + 4) xb) (tn + 8) xc) (tn + 12) xd)))] := hD
    refine lv_aload_n hx hb dX1_feed_57 rfl (lv_at hl 0 rfl) ?_
    refine lv_aload_n hx hb dX1_feed_58 rfl (lv_at hl 0 rfl) ?_
    refine va_get (D := (dC, dI)) (ci := 1) (v := .int (nI tn)) (C := RX1) (T := TX1) (N := 6) hx hb hts (by decide +kernel) hown hK hP 0 rfl rfl 1 (by decide) (hts (.fieldLink RX1 13 "KeySums" "tapeSize" "I") (by decide +kernel)) (fun _ h9 => h9) rfl dX1_feed_59 ?_
    refine lv_bipush (v := 16) hx hb dX1_feed_62 (by decide) ?_
    refine lv_iadd hx hb dX1_feed_64 ?_
    refine kz_top (y := nI (tn + 16)) (nI_add tn 16) ?_
    refine lv_iload hx hb dX1_feed_65 (lv_at hl 5 rfl) ?_
    have ho4 : (tn + 16) + 4 ≤ 2000 := by omega
    have hPc := hP.sub (ws' := [(h, .inr (1, [.ref qt, .int (nI tn), .ref qk, .ref qs, .ref qm, .int hs])), (qt, .inl (cT, 2000, .inl (ks_wr (ks_wr (ks_wr (ks_wr ft tn xa) (tn + 4) xb) (tn + 8) xc) (tn + 12) xd)))]) [0, 1] rfl
    have hDc := hD.sub (ws' := [(h, .inr (1, [.ref qt, .int (nI tn), .ref qk, .ref qs, .ref qm, .int hs])), (qt, .inl (cT, 2000, .inl (ks_wr (ks_wr (ks_wr (ks_wr ft tn xa) (tn + 4) xb) (tn + 8) xc) (tn + 12) xd)))]) [0, 1] (by decide) rfl
    have hKc := hK.sub (tys' := [(cT, .byte)]) [0] rfl
    have hFc := va_free (wc := [(h, .inr (1, [.ref qt, .int (nI tn), .ref qk, .ref qs, .ref qm, .int hs])), (qt, .inl (cT, 2000, .inl (ks_wr (ks_wr (ks_wr (ks_wr ft tn xa) (tn + 4) xb) (tn + 8) xc) (tn + 12) xd)))]) hD hS hA [0, 1] rfl
    refine va_callv (va_runV (As := [.int (nI (tn + 16)), .int xe]) (rest := []) ⟨hx, hb, hml, hown, hts⟩ (c_writeNumber l dC dI H.size h qt qk qs qm cT (nI tn) hs (ks_wr (ks_wr (ks_wr (ks_wr ft tn xa) (tn + 4) xb) (tn + 8) xc) (tn + 12) xd) (tn + 16) xe ho4) (cwV 2 hts gX1_feed_X1_writeNumber rfl rfl rfl (by decide +kernel) ⟨Nat.le_of_ble_eq_true rfl, Nat.le_of_ble_eq_true rfl⟩) ⟨fun a U g mk q => by obtain ⟨q0, q1, qP, qK, qD⟩ := q; exact ⟨q0, q1, qP, va_K.moved (u := U) (U := U.calling g mk a) (Vm.Alike.refl U.vm) qK, qD⟩, va_recv hKc hPc (ci := 1) (q0 := 0) rfl rfl, fun U hU hW => ⟨rfl, by rw [hU], by rw [hU]; exact hPc, va_K.moved hW.alike hKc, hDc.weaken (fun _ _ _ _ => trivial)⟩⟩ rfl rfl hl.1 rfl (lv_room (Nat.le_of_ble_eq_true rfl)) dX1_feed_67 ⟨Nat.zero_le _, Nat.zero_le _⟩) hS (fun q _ h => hFc q h) hFc (fun u t H1 locs ht hvm hw hB hz1 hk1 hS => ?_)
    obtain ⟨hP1, hK1, hD1⟩ := hB
    rw [ht] at hP1
    have hK1 := va_K.moved hvm.symm hK1
    try dsimp only at hw
    obtain ⟨hP, hD⟩ := va_join (wr := []) (w1 := [(h, .inr (1, [.ref qt, .int (nI tn), .ref qk, .ref qs, .ref qm, .int hs])), (qt, .inl (cT, 2000, .inl (ks_wr (ks_wr (ks_wr (ks_wr (ks_wr ft tn xa) (tn + 4) xb) (tn + 8) xc) (tn + 12) xd) (tn + 16) xe)))]) hP hD [0, 1] [] rfl rfl (by decide) (by decide) hk1 hFc hP1 hD1
    have hP := hP.sub (ws' := [(h, .inr (1, [.ref qt, .int (nI tn), .ref qk, .ref qs, .ref qm, .int hs])), (qt, .inl (cT, 2000, .inl (ks_wr (ks_wr (ks_wr (ks_wr (ks_wr ft tn xa) (tn + 4) xb) (tn + 8) xc) (tn + 12) xd) (tn + 16) xe)))]) [0, 1] rfl
    have hD := hD.sub (ws' := [(h, .inr (1, [.ref qt, .int (nI tn), .ref qk, .ref qs, .ref qm, .int hs])), (qt, .inl (cT, 2000, .inl (ks_wr (ks_wr (ks_wr (ks_wr (ks_wr ft tn xa) (tn + 4) xb) (tn + 8) xc) (tn + 12) xd) (tn + 16) xe)))]) [0, 1] (by decide) rfl
    generalize H1 = H at hP hS ⊢
    have hP : va_P (dC, dI) vwCl [(h, .inr (1, [.ref qt, .int (nI tn), .ref qk, .ref qs, .ref qm, .int hs])), (qt, .inl (cT, 2000, .inl (ks_wr (ks_wr (ks_wr (ks_wr (ks_wr ft tn xa) (tn + 4) xb) (tn + 8) xc) (tn + 12) xd) (tn + 16) xe)))] H := hP
    have hD : va_D A [(h, .inr (1, [.ref qt, .int (nI tn), .ref qk, .ref qs, .ref qm, .int hs])), (qt, .inl (cT, 2000, .inl (ks_wr (ks_wr (ks_wr (ks_wr (ks_wr ft tn xa) (tn + 4) xb) (tn + 8) xc) (tn + 12) xd) (tn + 16) xe)))] := hD
    refine lv_aload_n hx hb dX1_feed_70 rfl (lv_at hl 0 rfl) ?_
    refine lv_dup hx hb dX1_feed_71 rfl ?_
    refine va_get (D := (dC, dI)) (ci := 1) (v := .int (nI tn)) (C := RX1) (T := TX1) (N := 6) hx hb hts (by decide +kernel) hown hK hP 0 rfl rfl 1 (by decide) (hts (.fieldLink RX1 13 "KeySums" "tapeSize" "I") (by decide +kernel)) (fun _ h9 => h9) rfl dX1_feed_72 ?_
    refine lv_bipush (v := 20) hx hb dX1_feed_75 (by decide) ?_
    refine lv_iadd hx hb dX1_feed_77 ?_
    refine kz_top (y := nI (tn + 20)) (nI_add tn 20) ?_
    refine va_put (D := (dC, dI)) (ci := 1) (v := .int (nI (tn + 20))) (ty := .int) (C := RX1) (T := TX1) (N := 6) hx hb hts (by decide +kernel) tyX1 tyX1_ok nmX1 hown hK hP hD hS 0 rfl rfl 1 (by decide) (hts (.fieldLink RX1 13 "KeySums" "tapeSize" "I") (by decide +kernel)) (fun _ h9 => h9) rfl (by decide +kernel) rfl rfl (Nat.le_of_ble_eq_true rfl) dX1_feed_78 (fun H locs hP hD hS => ?_)
    have hP : va_P (dC, dI) vwCl [(h, .inr (1, [.ref qt, .int (nI (tn + 20)), .ref qk, .ref qs, .ref qm, .int hs])), (qt, .inl (cT, 2000, .inl (ks_wr (ks_wr (ks_wr (ks_wr (ks_wr ft tn xa) (tn + 4) xb) (tn + 8) xc) (tn + 12) xd) (tn + 16) xe)))] H := hP
    have hD : va_D A [(h, .inr (1, [.ref qt, .int (nI (tn + 20)), .ref qk, .ref qs, .ref qm, .int hs])), (qt, .inl (cT, 2000, .inl (ks_wr (ks_wr (ks_wr (ks_wr (ks_wr ft tn xa) (tn + 4) xb) (tn + 8) xc) (tn + 12) xd) (tn + 16) xe)))] := hD
    refine lv_iconst (v := 1) hx hb dX1_feed_81 (by decide) ?_
    have hP9 := hP.sub (ws' := [(h, .inr (1, [.ref qt, .int (nI (tn + 20)), .ref qk, .ref qs, .ref qm, .int hs])), (qt, .inl (cT, 2000, .inl (ks_wr (ks_wr (ks_wr (ks_wr (ks_wr ft tn xa) (tn + 4) xb) (tn + 8) xc) (tn + 12) xd) (tn + 16) xe)))]) [0, 1] rfl
    have hD9 := hD.sub (ws' := [(h, .inr (1, [.ref qt, .int (nI (tn + 20)), .ref qk, .ref qs, .ref qm, .int hs])), (qt, .inl (cT, 2000, .inl (ks_wr (ks_wr (ks_wr (ks_wr (ks_wr ft tn xa) (tn + 4) xb) (tn + 8) xc) (tn + 12) xd) (tn + 16) xe)))]) [0, 1] (by decide) rfl
    have hK9 := hK.sub (tys' := [(cT, .byte)]) [0] rfl
    exact W.zret (v := 1) (ty := .boolean) hx hb hr (by rfl) (fun t ht hW => ⟨⟨1, (), rfl, rfl, by rw [ht]; exact hP9, va_K.moved hW.alike hK9, hD9⟩, hS.F ht⟩) hS.2.2 dX1_feed_82
  · skip
    exact absurd (nI_le (a := tn) (b := 1980) h1 (by decide)) hc

set_option maxHeartbeats 4000000 in
set_option maxRecDepth 100000 in
/-- end, refused -/
theorem c_end_no (l : Launch) (dC : Nat → ClassId) (dI : Nat → Nat → Nat) (sz : Nat) (h qt qk qs qm : Nat) (tn : Nat) (hs : Int32) (x : Int32) (h1 : x < 0 ∨ nI tn < x) : Met l yX1_end wsX1_end ({ frames := 0, cells := 0, slots := 0, locals := 0 }) (va_Pc [.ref h, .int x] (fun U => U.heap.size = sz ∧ va_P (dC, dI) vwCl [(h, .inr (1, [.ref qt, .int (nI tn), .ref qk, .ref qs, .ref qm, .int hs]))] U.heap ∧ va_K (dC, dI) vwCl [] U ∧ va_D (fun _ => True) [(h, .inr (1, [.ref qt, .int (nI tn), .ref qk, .ref qs, .ref qm, .int hs]))])) (va_Qi (fun (r : Int32) (_u : Unit) => r = 0) (fun (_u : Unit) t => kz_B dC dI [] (va_A [(h, .inr (1, [.ref qt, .int (nI tn), .ref qk, .ref qs, .ref qm, .int hs]))] sz) [(h, .inr (1, [.ref qt, .int (nI tn), .ref qk, .ref qs, .ref qm, .int hs]))] t) (va_A [(h, .inr (1, [.ref qt, .int (nI tn), .ref qk, .ref qs, .ref qm, .int hs]))] sz)) 0 0 (va_A [(h, .inr (1, [.ref qt, .int (nI tn), .ref qk, .ref qs, .ref qm, .int hs]))] sz) := by
  refine Met.ofW (cc := cX1_end) (maxL := 2) (ret := (some .boolean)) (by decide) rfl ?_
  intro p e s m args below meth c s₁ B hml hv
  obtain ⟨rfl, hsz, hP, hK, hD0⟩ := hv
  have hx := B.exec
  have hb := B.bytes
  have hr := B.returns
  have hts := atoms_spec (ws := wsX1_end) B.pre
  have hown : s.vm.findClass RX1 = some m.cls := findClass_of_methodNamed B.named
  have hlocks := B.notSynchronized
  subst hsz
  have hD := hD0.self (sz := s.heap.size)
  generalize hAe : va_A [(h, .inr (1, [.ref qt, .int (nI tn), .ref qk, .ref qs, .ref qm, .int hs]))] s.heap.size = A at hD  ⊢
  have hA : ∀ q : Nat, s.heap.size ≤ q → A q := fun q h => by rw [← hAe]; exact Or.inr h
  have hS : va_S A s.heap s.heap [] := va_S.rf
  have hP : va_P (dC, dI) vwCl [(h, .inr (1, [.ref qt, .int (nI tn), .ref qk, .ref qs, .ref qm, .int hs]))] s.heap := hP
  have hl := lv_entry ([.ref h, .int x]) (n := 2) (Nat.le_of_ble_eq_true rfl)
  rw [lg_entry_eq]
  generalize (lg_sl ([.ref h, .int x]) ++ List.replicate (2 - (lg_sl ([.ref h, .int x])).length) Slot.unset).toArray = ls at hl ⊢
  have hl : lv_has ls 2 [(0, .ref h), (1, .int x)] := hl
  refine lv_iload_n hx hb dX1_end_0 rfl (lv_at hl 1 rfl) ?_
  refine lv_if_lt (tgt := 12) hx hb dX1_end_1 (by decide) (fun hc => ?_) (fun hc => ?_)
  · skip
    refine lv_iconst (v := 0) hx hb dX1_end_12 (by decide) ?_
    have hP9 := hP.sub (ws' := [(h, .inr (1, [.ref qt, .int (nI tn), .ref qk, .ref qs, .ref qm, .int hs]))]) [0] rfl
    have hD9 := hD.sub (ws' := [(h, .inr (1, [.ref qt, .int (nI tn), .ref qk, .ref qs, .ref qm, .int hs]))]) [0] (by decide) rfl
    have hK9 := hK.sub (tys' := []) [] rfl
    exact W.zret (v := 0) (ty := .boolean) hx hb hr (by rfl) (fun t ht hW => ⟨⟨0, (), rfl, rfl, by rw [ht]; exact hP9, va_K.moved hW.alike hK9, hD9⟩, hS.F ht⟩) hS.2.2 dX1_end_13
  · skip
    refine lv_iload_n hx hb dX1_end_4 rfl (lv_at hl 1 rfl) ?_
    refine lv_aload_n hx hb dX1_end_5 rfl (lv_at hl 0 rfl) ?_
    refine va_get (D := (dC, dI)) (ci := 1) (v := .int (nI tn)) (C := RX1) (T := TX1) (N := 6) hx hb hts (by decide +kernel) hown hK hP 0 rfl rfl 1 (by decide) (hts (.fieldLink RX1 13 "KeySums" "tapeSize" "I") (by decide +kernel)) (fun _ h9 => h9) rfl dX1_end_6 ?_
    refine lv_icmp_le (tgt := 14) hx hb dX1_end_9 (by decide) (fun hc => ?_) (fun hc => ?_)
    · skip
      exact absurd hc (h1.elim (fun q => absurd q (by assumption)) (fun q => Int32.not_le.mpr q))
    · skip
      refine lv_iconst (v := 0) hx hb dX1_end_12 (by decide) ?_
      have hP9 := hP.sub (ws' := [(h, .inr (1, [.ref qt, .int (nI tn), .ref qk, .ref qs, .ref qm, .int hs]))]) [0] rfl
      have hD9 := hD.sub (ws' := [(h, .inr (1, [.ref qt, .int (nI tn), .ref qk, .ref qs, .ref qm, .int hs]))]) [0] (by decide) rfl
      have hK9 := hK.sub (tys' := []) [] rfl
      exact W.zret (v := 0) (ty := .boolean) hx hb hr (by rfl) (fun t ht hW => ⟨⟨0, (), rfl, rfl, by rw [ht]; exact hP9, va_K.moved hW.alike hK9, hD9⟩, hS.F ht⟩) hS.2.2 dX1_end_13

set_option maxHeartbeats 4000000 in
set_option maxRecDepth 100000 in
/-- end -/
theorem c_end_ok (l : Launch) (dC : Nat → ClassId) (dI : Nat → Nat → Nat) (sz : Nat) (h qt qk qs qm : Nat) (tn : Nat) (hs : Int32) (k : Nat) (h1 : k ≤ tn) (h2 : tn ≤ 2000) : Met l yX1_end wsX1_end ({ frames := 0, cells := 0, slots := 0, locals := 0 }) (va_Pc [.ref h, .int (nI k)] (fun U => U.heap.size = sz ∧ va_P (dC, dI) vwCl [(h, .inr (1, [.ref qt, .int (nI tn), .ref qk, .ref qs, .ref qm, .int hs]))] U.heap ∧ va_K (dC, dI) vwCl [] U ∧ va_D (fun _ => True) [(h, .inr (1, [.ref qt, .int (nI tn), .ref qk, .ref qs, .ref qm, .int hs]))])) (va_Qi (fun (r : Int32) (_u : Unit) => r = 1) (fun (_u : Unit) t => kz_B dC dI [] (va_A [(h, .inr (1, [.ref qt, .int (nI tn), .ref qk, .ref qs, .ref qm, .int hs]))] sz) [(h, .inr (1, [.ref qt, .int (nI k), .ref qk, .ref qs, .ref qm, .int hs]))] t) (va_A [(h, .inr (1, [.ref qt, .int (nI tn), .ref qk, .ref qs, .ref qm, .int hs]))] sz)) 0 0 (va_A [(h, .inr (1, [.ref qt, .int (nI tn), .ref qk, .ref qs, .ref qm, .int hs]))] sz) := by
  refine Met.ofW (cc := cX1_end) (maxL := 2) (ret := (some .boolean)) (by decide) rfl ?_
  intro p e s m args below meth c s₁ B hml hv
  obtain ⟨rfl, hsz, hP, hK, hD0⟩ := hv
  have hx := B.exec
  have hb := B.bytes
  have hr := B.returns
  have hts := atoms_spec (ws := wsX1_end) B.pre
  have hown : s.vm.findClass RX1 = some m.cls := findClass_of_methodNamed B.named
  have hlocks := B.notSynchronized
  subst hsz
  have hD := hD0.self (sz := s.heap.size)
  generalize hAe : va_A [(h, .inr (1, [.ref qt, .int (nI tn), .ref qk, .ref qs, .ref qm, .int hs]))] s.heap.size = A at hD  ⊢
  have hA : ∀ q : Nat, s.heap.size ≤ q → A q := fun q h => by rw [← hAe]; exact Or.inr h
  have hS : va_S A s.heap s.heap [] := va_S.rf
  have hP : va_P (dC, dI) vwCl [(h, .inr (1, [.ref qt, .int (nI tn), .ref qk, .ref qs, .ref qm, .int hs]))] s.heap := hP
  have hl := lv_entry ([.ref h, .int (nI k)]) (n := 2) (Nat.le_of_ble_eq_true rfl)
  rw [lg_entry_eq]
  generalize (lg_sl ([.ref h, .int (nI k)]) ++ List.replicate (2 - (lg_sl ([.ref h, .int (nI k)])).length) Slot.unset).toArray = ls at hl ⊢
  have hl : lv_has ls 2 [(0, .ref h), (1, .int (nI k))] := hl
  refine lv_iload_n hx hb dX1_end_0 rfl (lv_at hl 1 rfl) ?_
  refine lv_if_lt (tgt := 12) hx hb dX1_end_1 (by decide) (fun hc => ?_) (fun hc => ?_)
  · skip
    exact absurd hc (nI_pos (n := k) (by omega))
  · skip
    refine lv_iload_n hx hb dX1_end_4 rfl (lv_at hl 1 rfl) ?_
    refine lv_aload_n hx hb dX1_end_5 rfl (lv_at hl 0 rfl) ?_
    refine va_get (D := (dC, dI)) (ci := 1) (v := .int (nI tn)) (C := RX1) (T := TX1) (N := 6) hx hb hts (by decide +kernel) hown hK hP 0 rfl rfl 1 (by decide) (hts (.fieldLink RX1 13 "KeySums" "tapeSize" "I") (by decide +kernel)) (fun _ h9 => h9) rfl dX1_end_6 ?_
    refine lv_icmp_le (tgt := 14) hx hb dX1_end_9 (by decide) (fun hc => ?_) (fun hc => ?_)
    · skip
      refine lv_aload_n hx hb dX1_end_14 rfl (lv_at hl 0 rfl) ?_
      refine lv_iload_n hx hb dX1_end_15 rfl (lv_at hl 1 rfl) ?_
      refine va_put (D := (dC, dI)) (ci := 1) (v := .int (nI k)) (ty := .int) (C := RX1) (T := TX1) (N := 6) hx hb hts (by decide +kernel) tyX1 tyX1_ok nmX1 hown hK hP hD hS 0 rfl rfl 1 (by decide) (hts (.fieldLink RX1 13 "KeySums" "tapeSize" "I") (by decide +kernel)) (fun _ h9 => h9) rfl (by decide +kernel) rfl rfl (Nat.le_of_ble_eq_true rfl) dX1_end_16 (fun H locs hP hD hS => ?_)
      have hP : va_P (dC, dI) vwCl [(h, .inr (1, [.ref qt, .int (nI k), .ref qk, .ref qs, .ref qm, .int hs]))] H := hP
      have hD : va_D A [(h, .inr (1, [.ref qt, .int (nI k), .ref qk, .ref qs, .ref qm, .int hs]))] := hD
      refine lv_iconst (v := 1) hx hb dX1_end_19 (by decide) ?_
      have hP9 := hP.sub (ws' := [(h, .inr (1, [.ref qt, .int (nI k), .ref qk, .ref qs, .ref qm, .int hs]))]) [0] rfl
      have hD9 := hD.sub (ws' := [(h, .inr (1, [.ref qt, .int (nI k), .ref qk, .ref qs, .ref qm, .int hs]))]) [0] (by decide) rfl
      have hK9 := hK.sub (tys' := []) [] rfl
      exact W.zret (v := 1) (ty := .boolean) hx hb hr (by rfl) (fun t ht hW => ⟨⟨1, (), rfl, rfl, by rw [ht]; exact hP9, va_K.moved hW.alike hK9, hD9⟩, hS.F ht⟩) hS.2.2 dX1_end_20
    · skip
      exact absurd (nI_le h1 (by omega)) hc
end
section
set_option maxHeartbeats 4000000 in
set_option maxRecDepth 100000 in
/-- add -/
theorem c_add (l : Launch) (dC : Nat → ClassId) (dI : Nat → Nat → Nat) (sz : Nat) (tS tT h qt qk qs qw qm : Nat) (cT cW : ClassId) (tn n : Nat) (hs : Int32) (v : ks_Q) (ft wd f : Nat → Int32) (h1 : tn ≤ 2000) (h2 : n + tn < 2 ^ 28) (hi : ks_inv f n wd v) (hf : ∀ j, j < tn → f (n + j) &&& 255 = ft j &&& 255) : Met l yX1_add wsX1_add ({ frames := 3, cells := 0, slots := 0, locals := 100 }) (va_Pc [.ref h] (fun U => U.heap.size = sz ∧ va_P (dC, dI) vwCl [(h, .inr (1, [.ref qt, .int (nI tn), .ref qk, .ref qs, .ref qm, .int hs])), (qt, .inl (cT, 2000, .inl ft)), (qs, .inr (0, [.ref qw, .int (nI n), .int v.1, .int v.2.1, .int v.2.2.1, .int v.2.2.2])), (qw, .inl (cW, 16, .inl wd))] U.heap ∧ va_K (dC, dI) vwCl [(cT, .byte), (cW, .int)] U ∧ va_D (fun _ => True) [(h, .inr (1, [.ref qt, .int (nI tn), .ref qk, .ref qs, .ref qm, .int hs])), (qt, .inl (cT, 2000, .inl ft)), (qs, .inr (0, [.ref qw, .int (nI n), .int v.1, .int v.2.1, .int v.2.2.1, .int v.2.2.2])), (qw, .inl (cW, 16, .inl wd))] ∧ ks_tab tS tT (va_A [(h, .inr (1, [.ref qt, .int (nI tn), .ref qk, .ref qs, .ref qm, .int hs])), (qt, .inl (cT, 2000, .inl ft)), (qs, .inr (0, [.ref qw, .int (nI n), .int v.1, .int v.2.1, .int v.2.2.1, .int v.2.2.2])), (qw, .inl (cW, 16, .inl wd))] sz) U U.heap ∧ ks_nw U)) (va_Qi (fun (r : Int32) (u : (Nat → Int32) × ks_Q) => r = nI (n + tn) ∧ ks_inv f (n + tn) u.1 u.2) (fun (u : (Nat → Int32) × ks_Q) t => kz_B dC dI [(cT, .byte), (cW, .int)] (va_A [(h, .inr (1, [.ref qt, .int (nI tn), .ref qk, .ref qs, .ref qm, .int hs])), (qt, .inl (cT, 2000, .inl ft)), (qs, .inr (0, [.ref qw, .int (nI n), .int v.1, .int v.2.1, .int v.2.2.1, .int v.2.2.2])), (qw, .inl (cW, 16, .inl wd))] sz) [(h, .inr (1, [.ref qt, .int (nI 0), .ref qk, .ref qs, .ref qm, .int hs])), (qt, .inl (cT, 2000, .inl ft)), (qs, .inr (0, [.ref qw, .int (nI (n + tn)), .int u.2.1, .int u.2.2.1, .int u.2.2.2.1, .int u.2.2.2.2])), (qw, .inl (cW, 16, .inl u.1))] t) (va_A [(h, .inr (1, [.ref qt, .int (nI tn), .ref qk, .ref qs, .ref qm, .int hs])), (qt, .inl (cT, 2000, .inl ft)), (qs, .inr (0, [.ref qw, .int (nI n), .int v.1, .int v.2.1, .int v.2.2.1, .int v.2.2.2])), (qw, .inl (cW, 16, .inl wd))] sz)) 0 0 (va_A [(h, .inr (1, [.ref qt, .int (nI tn), .ref qk, .ref qs, .ref qm, .int hs])), (qt, .inl (cT, 2000, .inl ft)), (qs, .inr (0, [.ref qw, .int (nI n), .int v.1, .int v.2.1, .int v.2.2.1, .int v.2.2.2])), (qw, .inl (cW, 16, .inl wd))] sz) := by
  refine Met.ofW (cc := cX1_add) (maxL := 2) (ret := (some .int)) (by decide) rfl ?_
  intro p e s m args below meth c s₁ B hml hv
  obtain ⟨rfl, hsz, hP, hK, hD0, hT, hN⟩ := hv
  have hx := B.exec
  have hb := B.bytes
  have hr := B.returns
  have hts := atoms_spec (ws := wsX1_add) B.pre
  have hown : s.vm.findClass RX1 = some m.cls := findClass_of_methodNamed B.named
  have hlocks := B.notSynchronized
  subst hsz
  have hD := hD0.self (sz := s.heap.size)
  generalize hAe : va_A [(h, .inr (1, [.ref qt, .int (nI tn), .ref qk, .ref qs, .ref qm, .int hs])), (qt, .inl (cT, 2000, .inl ft)), (qs, .inr (0, [.ref qw, .int (nI n), .int v.1, .int v.2.1, .int v.2.2.1, .int v.2.2.2])), (qw, .inl (cW, 16, .inl wd))] s.heap.size = A at hD hT ⊢
  have hA : ∀ q : Nat, s.heap.size ≤ q → A q := fun q h => by rw [← hAe]; exact Or.inr h
  have hS : va_S A s.heap s.heap [] := va_S.rf
  have hP : va_P (dC, dI) vwCl [(h, .inr (1, [.ref qt, .int (nI tn), .ref qk, .ref qs, .ref qm, .int hs])), (qt, .inl (cT, 2000, .inl ft)), (qs, .inr (0, [.ref qw, .int (nI n), .int v.1, .int v.2.1, .int v.2.2.1, .int v.2.2.2])), (qw, .inl (cW, 16, .inl wd))] s.heap := hP
  have hl := lv_entry ([.ref h]) (n := 2) (Nat.le_of_ble_eq_true rfl)
  rw [lg_entry_eq]
  generalize (lg_sl ([.ref h]) ++ List.replicate (2 - (lg_sl ([.ref h])).length) Slot.unset).toArray = ls at hl ⊢
  have hl : lv_has ls 2 [(0, .ref h)] := hl
  refine lv_iconst (v := 0) hx hb dX1_add_0 (by decide) ?_
  refine kz_top (y := nI 0) nI_0.symm ?_
  refine lv_istore_n (lv' := [(1, .int (nI 0)), (0, .ref h)]) hx hb dX1_add_1 rfl hl (by decide) rfl (fun ls hl => ?_)
  refine kz_loop (σ := (Nat → Int32) × ks_Q) (fun i x ls H locs => ks_inv f (n + i) x.1 x.2 ∧ lv_has ls 2 [(1, .int (nI i)), (0, .ref h)] ∧ va_P (dC, dI) vwCl [(h, .inr (1, [.ref qt, .int (nI tn), .ref qk, .ref qs, .ref qm, .int hs])), (qt, .inl (cT, 2000, .inl ft)), (qs, .inr (0, [.ref qw, .int (nI (n + i)), .int x.2.1, .int x.2.2.1, .int x.2.2.2.1, .int x.2.2.2.2])), (qw, .inl (cW, 16, .inl x.1))] H ∧ va_D A [(h, .inr (1, [.ref qt, .int (nI tn), .ref qk, .ref qs, .ref qm, .int hs])), (qt, .inl (cT, 2000, .inl ft)), (qs, .inr (0, [.ref qw, .int (nI (n + i)), .int x.2.1, .int x.2.2.1, .int x.2.2.2.1, .int x.2.2.2.2])), (qw, .inl (cW, 16, .inl x.1))] ∧ va_S A s.heap H locs) tn ?_ ?_ 0 (wd, v) ls _ _ (Nat.zero_le _) ⟨hi, hl, hP, hD, hS⟩
  · skip
    intro i x ls H locs hlt hI ih
    obtain ⟨hv, hl, hP, hD, hS⟩ := hI
    refine lv_iload_n hx hb dX1_add_2 rfl (lv_at hl 0 rfl) ?_
    refine lv_aload_n hx hb dX1_add_3 rfl (lv_at hl 1 rfl) ?_
    refine va_get (D := (dC, dI)) (ci := 1) (v := .int (nI tn)) (C := RX1) (T := TX1) (N := 6) hx hb hts (by decide +kernel) hown hK hP 0 rfl rfl 1 (by decide) (hts (.fieldLink RX1 13 "KeySums" "tapeSize" "I") (by decide +kernel)) (fun _ h9 => h9) rfl dX1_add_4 ?_
    refine lv_icmp_ge (tgt := 29) hx hb dX1_add_7 (by decide) (fun hc => ?_) (fun hc => ?_)
    · skip
      exact absurd hc (nI_ge hlt (by omega))
    · skip
      refine lv_aload_n hx hb dX1_add_10 rfl (lv_at hl 1 rfl) ?_
      refine va_get (D := (dC, dI)) (ci := 1) (v := .ref qs) (C := RX1) (T := TX1) (N := 6) hx hb hts (by decide +kernel) hown hK hP 0 rfl rfl 3 (by decide) (hts (.fieldLink RX1 23 "KeySums" "summer" "LKeySums$Summer;") (by decide +kernel)) (fun _ h9 => h9) rfl dX1_add_11 ?_
      refine lv_aload_n hx hb dX1_add_14 rfl (lv_at hl 1 rfl) ?_
      refine va_get (D := (dC, dI)) (ci := 1) (v := .ref qt) (C := RX1) (T := TX1) (N := 6) hx hb hts (by decide +kernel) hown hK hP 0 rfl rfl 0 (by decide) (hts (.fieldLink RX1 9 "KeySums" "tape" "[B") (by decide +kernel)) (fun _ h9 => h9) rfl dX1_add_15 ?_
      refine lv_iload_n hx hb dX1_add_18 rfl (lv_at hl 0 rfl) ?_
      refine kz_bald (j := i) hx hb hK hP 1 0 rfl rfl (show i < 2000 by omega) (by decide) dX1_add_19 ?_
      have hPc := hP.sub (ws' := [(qs, .inr (0, [.ref qw, .int (nI (n + i)), .int x.2.1, .int x.2.2.1, .int x.2.2.2.1, .int x.2.2.2.2])), (qw, .inl (cW, 16, .inl x.1))]) [2, 3] rfl
      have hDc := hD.sub (ws' := [(qs, .inr (0, [.ref qw, .int (nI (n + i)), .int x.2.1, .int x.2.2.1, .int x.2.2.2.1, .int x.2.2.2.2])), (qw, .inl (cW, 16, .inl x.1))]) [2, 3] (by decide) rfl
      have hKc := hK.sub (tys' := [(cW, .int)]) [1] rfl
      have hFc := va_free (wc := [(qs, .inr (0, [.ref qw, .int (nI (n + i)), .int x.2.1, .int x.2.2.1, .int x.2.2.2.1, .int x.2.2.2.2])), (qw, .inl (cW, 16, .inl x.1))]) hD hS hA [2, 3] rfl
      refine va_callv (va_runVN (As := [.int (ft i)]) (rest := []) ⟨hx, hb, hml, hown, hts⟩ (c_take l dC dI H.size tS tT qs qw cW (n + i) x.2 x.1 f (ft i) (by omega) hv (hf i hlt)) ⟨va_cnB 1 hts gX1_add_X0_take_n39 rfl rfl rfl hN.2.2.2.2.2.2.1 (hts (.initialized RX0) (by decide +kernel)) (by decide +kernel) ⟨Nat.le_of_ble_eq_true rfl, Nat.le_of_ble_eq_true rfl⟩, hts (.instanceMethod yX0_take) (by decide +kernel), hts (.selects RX0 yX0_take yX0_take) (by decide +kernel)⟩ ⟨fun a U g mk q => by obtain ⟨q0, q1, qP, qK, qD, qx0⟩ := q; exact ⟨q0, q1, qP, va_K.moved (u := U) (U := U.calling g mk a) (Vm.Alike.refl U.vm) qK, qD, ks_tab.moved (u := U) (U := U.calling g mk a) (Vm.Alike.refl U.vm) qx0⟩, va_recv hKc hPc (ci := 0) (q0 := 0) rfl rfl, fun U hU hW => ⟨rfl, by rw [hU], by rw [hU]; exact hPc, va_K.moved hW.alike hKc, hDc.weaken (fun _ _ _ _ => trivial), hT.call hS hFc hU hW.alike⟩⟩ rfl rfl hl.1 rfl (lv_room (Nat.le_of_ble_eq_true rfl)) dX1_add_20 ⟨Nat.zero_le _, Nat.zero_le _⟩) hS (fun q _ h => hFc q h) hFc (fun u t H1 locs ht hvm hw hB hz1 hk1 hS => ?_)
      obtain ⟨wd2, v2⟩ := u
      obtain ⟨hP1, hK1, hD1⟩ := hB
      rw [ht] at hP1
      have hK1 := va_K.moved hvm.symm hK1
      try dsimp only at hw
      obtain ⟨hP, hD⟩ := va_join (wr := [(h, .inr (1, [.ref qt, .int (nI tn), .ref qk, .ref qs, .ref qm, .int hs])), (qt, .inl (cT, 2000, .inl ft))]) (w1 := [(qs, .inr (0, [.ref qw, .int (nI (n + i + 1)), .int v2.1, .int v2.2.1, .int v2.2.2.1, .int v2.2.2.2])), (qw, .inl (cW, 16, .inl wd2))]) hP hD [2, 3] [0, 1] rfl rfl (by decide) (by decide) hk1 hFc hP1 hD1
      have hP := hP.sub (ws' := [(h, .inr (1, [.ref qt, .int (nI tn), .ref qk, .ref qs, .ref qm, .int hs])), (qt, .inl (cT, 2000, .inl ft)), (qs, .inr (0, [.ref qw, .int (nI (n + i + 1)), .int v2.1, .int v2.2.1, .int v2.2.2.1, .int v2.2.2.2])), (qw, .inl (cW, 16, .inl wd2))]) [0, 1, 2, 3] rfl
      have hD := hD.sub (ws' := [(h, .inr (1, [.ref qt, .int (nI tn), .ref qk, .ref qs, .ref qm, .int hs])), (qt, .inl (cT, 2000, .inl ft)), (qs, .inr (0, [.ref qw, .int (nI (n + i + 1)), .int v2.1, .int v2.2.1, .int v2.2.2.1, .int v2.2.2.2])), (qw, .inl (cW, 16, .inl wd2))]) [0, 1, 2, 3] (by decide) rfl
      generalize H1 = H at hP hS ⊢
      have hP : va_P (dC, dI) vwCl [(h, .inr (1, [.ref qt, .int (nI tn), .ref qk, .ref qs, .ref qm, .int hs])), (qt, .inl (cT, 2000, .inl ft)), (qs, .inr (0, [.ref qw, .int (nI (n + i + 1)), .int v2.1, .int v2.2.1, .int v2.2.2.1, .int v2.2.2.2])), (qw, .inl (cW, 16, .inl wd2))] H := hP
      have hD : va_D A [(h, .inr (1, [.ref qt, .int (nI tn), .ref qk, .ref qs, .ref qm, .int hs])), (qt, .inl (cT, 2000, .inl ft)), (qs, .inr (0, [.ref qw, .int (nI (n + i + 1)), .int v2.1, .int v2.2.1, .int v2.2.2.1, .int v2.2.2.2])), (qw, .inl (cW, 16, .inl wd2))] := hD
      refine lv_iinc (v := nI (i + 1)) (lv' := [(1, .int (nI (i + 1))), (0, .ref h)]) hx hb dX1_add_23 hl (k := 0) rfl (nI_1 i) (by decide) rfl (fun ls hl => ?_)
      refine lv_goto (tgt := 2) hx hb dX1_add_26 (by decide) ?_
      exact ih (wd2, v2) ls H locs ⟨hw, lv_sub hl [0, 1] rfl, hP, hD, hS⟩
  · skip
    intro x ls H locs hI
    obtain ⟨hv, hl, hP, hD, hS⟩ := hI
    refine lv_iload_n hx hb dX1_add_2 rfl (lv_at hl 0 rfl) ?_
    refine lv_aload_n hx hb dX1_add_3 rfl (lv_at hl 1 rfl) ?_
    refine va_get (D := (dC, dI)) (ci := 1) (v := .int (nI tn)) (C := RX1) (T := TX1) (N := 6) hx hb hts (by decide +kernel) hown hK hP 0 rfl rfl 1 (by decide) (hts (.fieldLink RX1 13 "KeySums" "tapeSize" "I") (by decide +kernel)) (fun _ h9 => h9) rfl dX1_add_4 ?_
    refine lv_icmp_ge (tgt := 29) hx hb dX1_add_7 (by decide) (fun hc => ?_) (fun hc => ?_)
    · skip
      refine lv_aload_n hx hb dX1_add_29 rfl (lv_at hl 1 rfl) ?_
      refine lv_iconst (v := 0) hx hb dX1_add_30 (by decide) ?_
      refine kz_top (y := nI 0) nI_0.symm ?_
      refine va_put (D := (dC, dI)) (ci := 1) (v := .int (nI 0)) (ty := .int) (C := RX1) (T := TX1) (N := 6) hx hb hts (by decide +kernel) tyX1 tyX1_ok nmX1 hown hK hP hD hS 0 rfl rfl 1 (by decide) (hts (.fieldLink RX1 13 "KeySums" "tapeSize" "I") (by decide +kernel)) (fun _ h9 => h9) rfl (by decide +kernel) rfl rfl (Nat.le_of_ble_eq_true rfl) dX1_add_31 (fun H locs hP hD hS => ?_)
      have hP : va_P (dC, dI) vwCl [(h, .inr (1, [.ref qt, .int (nI 0), .ref qk, .ref qs, .ref qm, .int hs])), (qt, .inl (cT, 2000, .inl ft)), (qs, .inr (0, [.ref qw, .int (nI (n + tn)), .int x.2.1, .int x.2.2.1, .int x.2.2.2.1, .int x.2.2.2.2])), (qw, .inl (cW, 16, .inl x.1))] H := hP
      have hD : va_D A [(h, .inr (1, [.ref qt, .int (nI 0), .ref qk, .ref qs, .ref qm, .int hs])), (qt, .inl (cT, 2000, .inl ft)), (qs, .inr (0, [.ref qw, .int (nI (n + tn)), .int x.2.1, .int x.2.2.1, .int x.2.2.2.1, .int x.2.2.2.2])), (qw, .inl (cW, 16, .inl x.1))] := hD
      refine lv_aload_n hx hb dX1_add_34 rfl (lv_at hl 1 rfl) ?_
      refine va_get (D := (dC, dI)) (ci := 1) (v := .ref qs) (C := RX1) (T := TX1) (N := 6) hx hb hts (by decide +kernel) hown hK hP 0 rfl rfl 3 (by decide) (hts (.fieldLink RX1 23 "KeySums" "summer" "LKeySums$Summer;") (by decide +kernel)) (fun _ h9 => h9) rfl dX1_add_35 ?_
      refine va_getN (D := (dC, dI)) (ci := 0) (v := .int (nI (n + tn))) (C := RX0) (T := TX0) (N := 6) hx hb hts (by decide +kernel) hown hK hP 2 rfl rfl 1 (by decide) (va_Nw.use rfl hN.1) (fun _ h9 => h9) rfl dX1_add_38 ?_
      have hP9 := hP.sub (ws' := [(h, .inr (1, [.ref qt, .int (nI 0), .ref qk, .ref qs, .ref qm, .int hs])), (qt, .inl (cT, 2000, .inl ft)), (qs, .inr (0, [.ref qw, .int (nI (n + tn)), .int x.2.1, .int x.2.2.1, .int x.2.2.2.1, .int x.2.2.2.2])), (qw, .inl (cW, 16, .inl x.1))]) [0, 1, 2, 3] rfl
      have hD9 := hD.sub (ws' := [(h, .inr (1, [.ref qt, .int (nI 0), .ref qk, .ref qs, .ref qm, .int hs])), (qt, .inl (cT, 2000, .inl ft)), (qs, .inr (0, [.ref qw, .int (nI (n + tn)), .int x.2.1, .int x.2.2.1, .int x.2.2.2.1, .int x.2.2.2.2])), (qw, .inl (cW, 16, .inl x.1))]) [0, 1, 2, 3] (by decide) rfl
      have hK9 := hK.sub (tys' := [(cT, .byte), (cW, .int)]) [0, 1] rfl
      exact W.iret (v := (nI (n + tn))) hx hb hr (fun t ht hW => ⟨⟨(nI (n + tn)), x, rfl, ⟨rfl, hv⟩, by rw [ht]; exact hP9, va_K.moved hW.alike hK9, hD9⟩, hS.F ht⟩) hS.2.2 dX1_add_41
    · skip
      exact absurd (nI_le (Nat.le_refl _) (by omega)) hc

set_option maxHeartbeats 4000000 in
set_option maxRecDepth 100000 in
/-- fill, refused -/
theorem c_fill_no (l : Launch) (dC : Nat → ClassId) (dI : Nat → Nat → Nat) (sz : Nat) (h qt qk qs qw qm : Nat) (cW : ClassId) (tn hs nn : Int32) (v : ks_Q) (wd : Nat → Int32) (y x : Int32) (h1 : y < 0 ∨ 4000 < y) : Met l yX1_fill wsX1_fill ({ frames := 0, cells := 0, slots := 0, locals := 0 }) (va_Pc [.ref h, .int y, .int x] (fun U => U.heap.size = sz ∧ va_P (dC, dI) vwCl [(h, .inr (1, [.ref qt, .int tn, .ref qk, .ref qs, .ref qm, .int hs]))] U.heap ∧ va_K (dC, dI) vwCl [] U ∧ va_D (fun _ => True) [(h, .inr (1, [.ref qt, .int tn, .ref qk, .ref qs, .ref qm, .int hs]))])) (vp_Si (fun r => r = -1)) 0 0 (fun _ => False) := by
  refine Met.ofW (cc := cX1_fill) (maxL := 4) (ret := (some .int)) (by decide) rfl ?_
  intro p e s m args below meth c s₁ B hml hv
  obtain ⟨rfl, hsz, hP, hK, hD0⟩ := hv
  have hx := B.exec
  have hb := B.bytes
  have hr := B.returns
  have hts := atoms_spec (ws := wsX1_fill) B.pre
  have hown : s.vm.findClass RX1 = some m.cls := findClass_of_methodNamed B.named
  have hlocks := B.notSynchronized
  subst hsz
  have hD := hD0.self (sz := s.heap.size)
  generalize hAe : va_A [(h, .inr (1, [.ref qt, .int tn, .ref qk, .ref qs, .ref qm, .int hs]))] s.heap.size = A at hD  ⊢
  have hA : ∀ q : Nat, s.heap.size ≤ q → A q := fun q h => by rw [← hAe]; exact Or.inr h
  have hS : va_S A s.heap s.heap [] := va_S.rf
  have hP : va_P (dC, dI) vwCl [(h, .inr (1, [.ref qt, .int tn, .ref qk, .ref qs, .ref qm, .int hs]))] s.heap := hP
  have hl := lv_entry ([.ref h, .int y, .int x]) (n := 4) (Nat.le_of_ble_eq_true rfl)
  rw [lg_entry_eq]
  generalize (lg_sl ([.ref h, .int y, .int x]) ++ List.replicate (4 - (lg_sl ([.ref h, .int y, .int x])).length) Slot.unset).toArray = ls at hl ⊢
  have hl : lv_has ls 4 [(0, .ref h), (1, .int y), (2, .int x)] := hl
  refine lv_iload_n hx hb dX1_fill_0 rfl (lv_at hl 1 rfl) ?_
  refine lv_if_lt (tgt := 11) hx hb dX1_fill_1 (by decide) (fun hc => ?_) (fun hc => ?_)
  · skip
    refine lv_iconst (v := (-1)) hx hb dX1_fill_11 (by decide) ?_
    exact W.iret (v := (-1)) hx hb hr (fun t ht hW => ⟨(-1), rfl, rfl, ht⟩) (fun q h => by cases h) dX1_fill_12
  · skip
    refine lv_iload_n hx hb dX1_fill_4 rfl (lv_at hl 1 rfl) ?_
    refine lv_sipush (v := 4000) hx hb dX1_fill_5 (by decide) ?_
    refine lv_icmp_le (tgt := 13) hx hb dX1_fill_8 (by decide) (fun hc => ?_) (fun hc => ?_)
    · skip
      exact absurd hc (h1.elim (fun q => absurd q (by assumption)) (fun q => Int32.not_le.mpr q))
    · skip
      refine lv_iconst (v := (-1)) hx hb dX1_fill_11 (by decide) ?_
      exact W.iret (v := (-1)) hx hb hr (fun t ht hW => ⟨(-1), rfl, rfl, ht⟩) (fun q h => by cases h) dX1_fill_12

set_option maxHeartbeats 4000000 in
set_option maxRecDepth 100000 in
/-- fill -/
theorem c_fill_ok (l : Launch) (dC : Nat → ClassId) (dI : Nat → Nat → Nat) (sz : Nat) (tS tT h qt qk qs qw qm : Nat) (cW : ClassId) (tn hs : Int32) (n k : Nat) (v : ks_Q) (wd f : Nat → Int32) (x : Int32) (h1 : k ≤ 4000) (h2 : n + k < 2 ^ 28) (hi : ks_inv f n wd v) (hf : ∀ j, j < k → f (n + j) &&& 255 = (x + 3 * nI j) &&& 255) : Met l yX1_fill wsX1_fill ({ frames := 3, cells := 0, slots := 0, locals := 100 }) (va_Pc [.ref h, .int (nI k), .int x] (fun U => U.heap.size = sz ∧ va_P (dC, dI) vwCl [(h, .inr (1, [.ref qt, .int tn, .ref qk, .ref qs, .ref qm, .int hs])), (qs, .inr (0, [.ref qw, .int (nI n), .int v.1, .int v.2.1, .int v.2.2.1, .int v.2.2.2])), (qw, .inl (cW, 16, .inl wd))] U.heap ∧ va_K (dC, dI) vwCl [(cW, .int)] U ∧ va_D (fun _ => True) [(h, .inr (1, [.ref qt, .int tn, .ref qk, .ref qs, .ref qm, .int hs])), (qs, .inr (0, [.ref qw, .int (nI n), .int v.1, .int v.2.1, .int v.2.2.1, .int v.2.2.2])), (qw, .inl (cW, 16, .inl wd))] ∧ ks_tab tS tT (va_A [(h, .inr (1, [.ref qt, .int tn, .ref qk, .ref qs, .ref qm, .int hs])), (qs, .inr (0, [.ref qw, .int (nI n), .int v.1, .int v.2.1, .int v.2.2.1, .int v.2.2.2])), (qw, .inl (cW, 16, .inl wd))] sz) U U.heap ∧ ks_nw U)) (va_Qi (fun (r : Int32) (u : (Nat → Int32) × ks_Q) => r = nI (n + k) ∧ ks_inv f (n + k) u.1 u.2) (fun (u : (Nat → Int32) × ks_Q) t => kz_B dC dI [(cW, .int)] (va_A [(h, .inr (1, [.ref qt, .int tn, .ref qk, .ref qs, .ref qm, .int hs])), (qs, .inr (0, [.ref qw, .int (nI n), .int v.1, .int v.2.1, .int v.2.2.1, .int v.2.2.2])), (qw, .inl (cW, 16, .inl wd))] sz) [(h, .inr (1, [.ref qt, .int tn, .ref qk, .ref qs, .ref qm, .int hs])), (qs, .inr (0, [.ref qw, .int (nI (n + k)), .int u.2.1, .int u.2.2.1, .int u.2.2.2.1, .int u.2.2.2.2])), (qw, .inl (cW, 16, .inl u.1))] t) (va_A [(h, .inr (1, [.ref qt, .int tn, .ref qk, .ref qs, .ref qm, .int hs])), (qs, .inr (0, [.ref qw, .int (nI n), .int v.1, .int v.2.1, .int v.2.2.1, .int v.2.2.2])), (qw, .inl (cW, 16, .inl wd))] sz)) 0 0 (va_A [(h, .inr (1, [.ref qt, .int tn, .ref qk, .ref qs, .ref qm, .int hs])), (qs, .inr (0, [.ref qw, .int (nI n), .int v.1, .int v.2.1, .int v.2.2.1, .int v.2.2.2])), (qw, .inl (cW, 16, .inl wd))] sz) := by
  refine Met.ofW (cc := cX1_fill) (maxL := 4) (ret := (some .int)) (by decide) rfl ?_
  intro p e s m args below meth c s₁ B hml hv
  obtain ⟨rfl, hsz, hP, hK, hD0, hT, hN⟩ := hv
  have hx := B.exec
  have hb := B.bytes
  have hr := B.returns
  have hts := atoms_spec (ws := wsX1_fill) B.pre
  have hown : s.vm.findClass RX1 = some m.cls := findClass_of_methodNamed B.named
  have hlocks := B.notSynchronized
  subst hsz
  have hD := hD0.self (sz := s.heap.size)
  generalize hAe : va_A [(h, .inr (1, [.ref qt, .int tn, .ref qk, .ref qs, .ref qm, .int hs])), (qs, .inr (0, [.ref qw, .int (nI n), .int v.1, .int v.2.1, .int v.2.2.1, .int v.2.2.2])), (qw, .inl (cW, 16, .inl wd))] s.heap.size = A at hD hT ⊢
  have hA : ∀ q : Nat, s.heap.size ≤ q → A q := fun q h => by rw [← hAe]; exact Or.inr h
  have hS : va_S A s.heap s.heap [] := va_S.rf
  have hP : va_P (dC, dI) vwCl [(h, .inr (1, [.ref qt, .int tn, .ref qk, .ref qs, .ref qm, .int hs])), (qs, .inr (0, [.ref qw, .int (nI n), .int v.1, .int v.2.1, .int v.2.2.1, .int v.2.2.2])), (qw, .inl (cW, 16, .inl wd))] s.heap := hP
  have hl := lv_entry ([.ref h, .int (nI k), .int x]) (n := 4) (Nat.le_of_ble_eq_true rfl)
  rw [lg_entry_eq]
  generalize (lg_sl ([.ref h, .int (nI k), .int x]) ++ List.replicate (4 - (lg_sl ([.ref h, .int (nI k), .int x])).length) Slot.unset).toArray = ls at hl ⊢
  have hl : lv_has ls 4 [(0, .ref h), (1, .int (nI k)), (2, .int x)] := hl
  refine lv_iload_n hx hb dX1_fill_0 rfl (lv_at hl 1 rfl) ?_
  refine lv_if_lt (tgt := 11) hx hb dX1_fill_1 (by decide) (fun hc => ?_) (fun hc => ?_)
  · skip
    exact absurd hc (nI_pos (n := k) (by omega))
  · skip
    refine lv_iload_n hx hb dX1_fill_4 rfl (lv_at hl 1 rfl) ?_
    refine lv_sipush (v := 4000) hx hb dX1_fill_5 (by decide) ?_
    refine lv_icmp_le (tgt := 13) hx hb dX1_fill_8 (by decide) (fun hc => ?_) (fun hc => ?_)
    · skip
      refine lv_iconst (v := 0) hx hb dX1_fill_13 (by decide) ?_
      refine kz_top (y := nI 0) nI_0.symm ?_
      refine lv_istore_n (lv' := [(3, .int (nI 0)), (0, .ref h), (1, .int (nI k)), (2, .int x)]) hx hb dX1_fill_14 rfl hl (by decide) rfl (fun ls hl => ?_)
      refine kz_loop (σ := (Nat → Int32) × ks_Q) (fun i x1 ls H locs => ks_inv f (n + i) x1.1 x1.2 ∧ lv_has ls 4 [(3, .int (nI i)), (0, .ref h), (1, .int (nI k)), (2, .int x)] ∧ va_P (dC, dI) vwCl [(h, .inr (1, [.ref qt, .int tn, .ref qk, .ref qs, .ref qm, .int hs])), (qs, .inr (0, [.ref qw, .int (nI (n + i)), .int x1.2.1, .int x1.2.2.1, .int x1.2.2.2.1, .int x1.2.2.2.2])), (qw, .inl (cW, 16, .inl x1.1))] H ∧ va_D A [(h, .inr (1, [.ref qt, .int tn, .ref qk, .ref qs, .ref qm, .int hs])), (qs, .inr (0, [.ref qw, .int (nI (n + i)), .int x1.2.1, .int x1.2.2.1, .int x1.2.2.2.1, .int x1.2.2.2.2])), (qw, .inl (cW, 16, .inl x1.1))] ∧ va_S A s.heap H locs) k ?_ ?_ 0 (wd, v) ls _ _ (Nat.zero_le _) ⟨hi, lv_sub hl [0, 1, 2, 3] rfl, hP, hD, hS⟩
      · skip
        intro i x1 ls H locs hlt hI ih
        obtain ⟨hv, hl, hP, hD, hS⟩ := hI
        refine lv_iload_n hx hb dX1_fill_15 rfl (lv_at hl 0 rfl) ?_
        refine lv_iload_n hx hb dX1_fill_16 rfl (lv_at hl 2 rfl) ?_
        refine lv_icmp_ge (tgt := 38) hx hb dX1_fill_17 (by decide) (fun hc => ?_) (fun hc => ?_)
        · skip
          exact absurd hc (nI_ge hlt (by omega))
        · skip
          refine lv_aload_n hx hb dX1_fill_20 rfl (lv_at hl 1 rfl) ?_
          refine va_get (D := (dC, dI)) (ci := 1) (v := .ref qs) (C := RX1) (T := TX1) (N := 6) hx hb hts (by decide +kernel) hown hK hP 0 rfl rfl 3 (by decide) (hts (.fieldLink RX1 23 "KeySums" "summer" "LKeySums$Summer;") (by decide +kernel)) (fun _ h9 => h9) rfl dX1_fill_21 ?_
          refine lv_iload_n hx hb dX1_fill_24 rfl (lv_at hl 3 rfl) ?_
          refine lv_iconst (v := 3) hx hb dX1_fill_25 (by decide) ?_
          refine lv_iload_n hx hb dX1_fill_26 rfl (lv_at hl 0 rfl) ?_
          refine lv_imul hx hb dX1_fill_27 ?_
          refine lv_iadd hx hb dX1_fill_28 ?_
          have hPc := hP.sub (ws' := [(qs, .inr (0, [.ref qw, .int (nI (n + i)), .int x1.2.1, .int x1.2.2.1, .int x1.2.2.2.1, .int x1.2.2.2.2])), (qw, .inl (cW, 16, .inl x1.1))]) [1, 2] rfl
          have hDc := hD.sub (ws' := [(qs, .inr (0, [.ref qw, .int (nI (n + i)), .int x1.2.1, .int x1.2.2.1, .int x1.2.2.2.1, .int x1.2.2.2.2])), (qw, .inl (cW, 16, .inl x1.1))]) [1, 2] (by decide) rfl
          have hKc := hK.sub (tys' := [(cW, .int)]) [0] rfl
          have hFc := va_free (wc := [(qs, .inr (0, [.ref qw, .int (nI (n + i)), .int x1.2.1, .int x1.2.2.1, .int x1.2.2.2.1, .int x1.2.2.2.2])), (qw, .inl (cW, 16, .inl x1.1))]) hD hS hA [1, 2] rfl
          refine va_callv (va_runVN (As := [.int (x + (3 * (nI i)))]) (rest := []) ⟨hx, hb, hml, hown, hts⟩ (c_take l dC dI H.size tS tT qs qw cW (n + i) x1.2 x1.1 f (x + 3 * nI i) (by omega) hv (hf i hlt)) ⟨va_cnB 1 hts gX1_fill_X0_take_n39 rfl rfl rfl hN.2.2.2.2.2.2.1 (hts (.initialized RX0) (by decide +kernel)) (by decide +kernel) ⟨Nat.le_of_ble_eq_true rfl, Nat.le_of_ble_eq_true rfl⟩, hts (.instanceMethod yX0_take) (by decide +kernel), hts (.selects RX0 yX0_take yX0_take) (by decide +kernel)⟩ ⟨fun a U g mk q => by obtain ⟨q0, q1, qP, qK, qD, qx0⟩ := q; exact ⟨q0, q1, qP, va_K.moved (u := U) (U := U.calling g mk a) (Vm.Alike.refl U.vm) qK, qD, ks_tab.moved (u := U) (U := U.calling g mk a) (Vm.Alike.refl U.vm) qx0⟩, va_recv hKc hPc (ci := 0) (q0 := 0) rfl rfl, fun U hU hW => ⟨rfl, by rw [hU], by rw [hU]; exact hPc, va_K.moved hW.alike hKc, hDc.weaken (fun _ _ _ _ => trivial), hT.call hS hFc hU hW.alike⟩⟩ rfl rfl hl.1 rfl (lv_room (Nat.le_of_ble_eq_true rfl)) dX1_fill_29 ⟨Nat.zero_le _, Nat.zero_le _⟩) hS (fun q _ h => hFc q h) hFc (fun u t H1 locs ht hvm hw hB hz1 hk1 hS => ?_)
          obtain ⟨wd2, v2⟩ := u
          obtain ⟨hP1, hK1, hD1⟩ := hB
          rw [ht] at hP1
          have hK1 := va_K.moved hvm.symm hK1
          try dsimp only at hw
          obtain ⟨hP, hD⟩ := va_join (wr := [(h, .inr (1, [.ref qt, .int tn, .ref qk, .ref qs, .ref qm, .int hs]))]) (w1 := [(qs, .inr (0, [.ref qw, .int (nI (n + i + 1)), .int v2.1, .int v2.2.1, .int v2.2.2.1, .int v2.2.2.2])), (qw, .inl (cW, 16, .inl wd2))]) hP hD [1, 2] [0] rfl rfl (by decide) (by decide) hk1 hFc hP1 hD1
          have hP := hP.sub (ws' := [(h, .inr (1, [.ref qt, .int tn, .ref qk, .ref qs, .ref qm, .int hs])), (qs, .inr (0, [.ref qw, .int (nI (n + i + 1)), .int v2.1, .int v2.2.1, .int v2.2.2.1, .int v2.2.2.2])), (qw, .inl (cW, 16, .inl wd2))]) [0, 1, 2] rfl
          have hD := hD.sub (ws' := [(h, .inr (1, [.ref qt, .int tn, .ref qk, .ref qs, .ref qm, .int hs])), (qs, .inr (0, [.ref qw, .int (nI (n + i + 1)), .int v2.1, .int v2.2.1, .int v2.2.2.1, .int v2.2.2.2])), (qw, .inl (cW, 16, .inl wd2))]) [0, 1, 2] (by decide) rfl
          generalize H1 = H at hP hS ⊢
          have hP : va_P (dC, dI) vwCl [(h, .inr (1, [.ref qt, .int tn, .ref qk, .ref qs, .ref qm, .int hs])), (qs, .inr (0, [.ref qw, .int (nI (n + i + 1)), .int v2.1, .int v2.2.1, .int v2.2.2.1, .int v2.2.2.2])), (qw, .inl (cW, 16, .inl wd2))] H := hP
          have hD : va_D A [(h, .inr (1, [.ref qt, .int tn, .ref qk, .ref qs, .ref qm, .int hs])), (qs, .inr (0, [.ref qw, .int (nI (n + i + 1)), .int v2.1, .int v2.2.1, .int v2.2.2.1, .int v2.2.2.2])), (qw, .inl (cW, 16, .inl wd2))] := hD
          refine lv_iinc (v := nI (i + 1)) (lv' := [(3, .int (nI (i + 1))), (0, .ref h), (1, .int (nI k)), (2, .int x)]) hx hb dX1_fill_32 hl (k := 0) rfl (nI_1 i) (by decide) rfl (fun ls hl => ?_)
          refine lv_goto (tgt := 15) hx hb dX1_fill_35 (by decide) ?_
          exact ih (wd2, v2) ls H locs ⟨hw, lv_sub hl [0, 1, 2, 3] rfl, hP, hD, hS⟩
      · skip
        intro x1 ls H locs hI
        obtain ⟨hv, hl, hP, hD, hS⟩ := hI
        refine lv_iload_n hx hb dX1_fill_15 rfl (lv_at hl 0 rfl) ?_
        refine lv_iload_n hx hb dX1_fill_16 rfl (lv_at hl 2 rfl) ?_
        refine lv_icmp_ge (tgt := 38) hx hb dX1_fill_17 (by decide) (fun hc => ?_) (fun hc => ?_)
        · skip
          refine lv_aload_n hx hb dX1_fill_38 rfl (lv_at hl 1 rfl) ?_
          refine va_get (D := (dC, dI)) (ci := 1) (v := .ref qs) (C := RX1) (T := TX1) (N := 6) hx hb hts (by decide +kernel) hown hK hP 0 rfl rfl 3 (by decide) (hts (.fieldLink RX1 23 "KeySums" "summer" "LKeySums$Summer;") (by decide +kernel)) (fun _ h9 => h9) rfl dX1_fill_39 ?_
          refine va_getN (D := (dC, dI)) (ci := 0) (v := .int (nI (n + k))) (C := RX0) (T := TX0) (N := 6) hx hb hts (by decide +kernel) hown hK hP 1 rfl rfl 1 (by decide) (va_Nw.use rfl hN.1) (fun _ h9 => h9) rfl dX1_fill_42 ?_
          have hP9 := hP.sub (ws' := [(h, .inr (1, [.ref qt, .int tn, .ref qk, .ref qs, .ref qm, .int hs])), (qs, .inr (0, [.ref qw, .int (nI (n + k)), .int x1.2.1, .int x1.2.2.1, .int x1.2.2.2.1, .int x1.2.2.2.2])), (qw, .inl (cW, 16, .inl x1.1))]) [0, 1, 2] rfl
          have hD9 := hD.sub (ws' := [(h, .inr (1, [.ref qt, .int tn, .ref qk, .ref qs, .ref qm, .int hs])), (qs, .inr (0, [.ref qw, .int (nI (n + k)), .int x1.2.1, .int x1.2.2.1, .int x1.2.2.2.1, .int x1.2.2.2.2])), (qw, .inl (cW, 16, .inl x1.1))]) [0, 1, 2] (by decide) rfl
          have hK9 := hK.sub (tys' := [(cW, .int)]) [0] rfl
          exact W.iret (v := (nI (n + k))) hx hb hr (fun t ht hW => ⟨⟨(nI (n + k)), x1, rfl, ⟨rfl, hv⟩, by rw [ht]; exact hP9, va_K.moved hW.alike hK9, hD9⟩, hS.F ht⟩) hS.2.2 dX1_fill_45
        · skip
          exact absurd (nI_le (Nat.le_refl _) (by omega)) hc
    · skip
      exact absurd (nI_le (a := k) (b := 4000) h1 (by decide)) hc
end
section
set_option maxHeartbeats 4000000 in
set_option maxRecDepth 100000 in
/-- key, too long -/
theorem c_key_no (l : Launch) (dC : Nat → ClassId) (dI : Nat → Nat → Nat) (sz : Nat) (h qt qk qs qm : Nat) (cT cK : ClassId) (tn : Nat) (hs : Int32) (ft fk : Nat → Int32) (h1 : 16 < tn) (h2 : tn ≤ 2000) : Met l yX1_key wsX1_key ({ frames := 0, cells := 0, slots := 0, locals := 0 }) (va_Pc [.ref h] (fun U => U.heap.size = sz ∧ va_P (dC, dI) vwCl [(h, .inr (1, [.ref qt, .int (nI tn), .ref qk, .ref qs, .ref qm, .int hs])), (qt, .inl (cT, 2000, .inl ft)), (qk, .inl (cK, 16, .inl fk))] U.heap ∧ va_K (dC, dI) vwCl [(cT, .byte), (cK, .byte)] U ∧ va_D (fun _ => True) [(h, .inr (1, [.ref qt, .int (nI tn), .ref qk, .ref qs, .ref qm, .int hs])), (qt, .inl (cT, 2000, .inl ft)), (qk, .inl (cK, 16, .inl fk))])) (va_Qi (fun (r : Int32) (_u : Unit) => r = -1) (fun (_u : Unit) t => kz_B dC dI [(cT, .byte), (cK, .byte)] (va_A [(h, .inr (1, [.ref qt, .int (nI tn), .ref qk, .ref qs, .ref qm, .int hs])), (qt, .inl (cT, 2000, .inl ft)), (qk, .inl (cK, 16, .inl fk))] sz) [(h, .inr (1, [.ref qt, .int (nI 0), .ref qk, .ref qs, .ref qm, .int hs])), (qt, .inl (cT, 2000, .inl ft)), (qk, .inl (cK, 16, .inl fk))] t) (va_A [(h, .inr (1, [.ref qt, .int (nI tn), .ref qk, .ref qs, .ref qm, .int hs])), (qt, .inl (cT, 2000, .inl ft)), (qk, .inl (cK, 16, .inl fk))] sz)) 0 0 (va_A [(h, .inr (1, [.ref qt, .int (nI tn), .ref qk, .ref qs, .ref qm, .int hs])), (qt, .inl (cT, 2000, .inl ft)), (qk, .inl (cK, 16, .inl fk))] sz) := by
  refine Met.ofW (cc := cX1_key) (maxL := 3) (ret := (some .int)) (by decide) rfl ?_
  intro p e s m args below meth c s₁ B hml hv
  obtain ⟨rfl, hsz, hP, hK, hD0⟩ := hv
  have hx := B.exec
  have hb := B.bytes
  have hr := B.returns
  have hts := atoms_spec (ws := wsX1_key) B.pre
  have hown : s.vm.findClass RX1 = some m.cls := findClass_of_methodNamed B.named
  have hlocks := B.notSynchronized
  subst hsz
  have hD := hD0.self (sz := s.heap.size)
  generalize hAe : va_A [(h, .inr (1, [.ref qt, .int (nI tn), .ref qk, .ref qs, .ref qm, .int hs])), (qt, .inl (cT, 2000, .inl ft)), (qk, .inl (cK, 16, .inl fk))] s.heap.size = A at hD  ⊢
  have hA : ∀ q : Nat, s.heap.size ≤ q → A q := fun q h => by rw [← hAe]; exact Or.inr h
  have hS : va_S A s.heap s.heap [] := va_S.rf
  have hP : va_P (dC, dI) vwCl [(h, .inr (1, [.ref qt, .int (nI tn), .ref qk, .ref qs, .ref qm, .int hs])), (qt, .inl (cT, 2000, .inl ft)), (qk, .inl (cK, 16, .inl fk))] s.heap := hP
  have hl := lv_entry ([.ref h]) (n := 3) (Nat.le_of_ble_eq_true rfl)
  rw [lg_entry_eq]
  generalize (lg_sl ([.ref h]) ++ List.replicate (3 - (lg_sl ([.ref h])).length) Slot.unset).toArray = ls at hl ⊢
  have hl : lv_has ls 3 [(0, .ref h)] := hl
  refine lv_aload_n hx hb dX1_key_0 rfl (lv_at hl 0 rfl) ?_
  refine va_get (D := (dC, dI)) (ci := 1) (v := .int (nI tn)) (C := RX1) (T := TX1) (N := 6) hx hb hts (by decide +kernel) hown hK hP 0 rfl rfl 1 (by decide) (hts (.fieldLink RX1 13 "KeySums" "tapeSize" "I") (by decide +kernel)) (fun _ h9 => h9) rfl dX1_key_1 ?_
  refine lv_istore_n (lv' := [(1, .int (nI tn)), (0, .ref h)]) hx hb dX1_key_4 rfl hl (by decide) rfl (fun ls hl => ?_)
  refine lv_aload_n hx hb dX1_key_5 rfl (lv_at hl 1 rfl) ?_
  refine lv_iconst (v := 0) hx hb dX1_key_6 (by decide) ?_
  refine kz_top (y := nI 0) nI_0.symm ?_
  refine va_put (D := (dC, dI)) (ci := 1) (v := .int (nI 0)) (ty := .int) (C := RX1) (T := TX1) (N := 6) hx hb hts (by decide +kernel) tyX1 tyX1_ok nmX1 hown hK hP hD hS 0 rfl rfl 1 (by decide) (hts (.fieldLink RX1 13 "KeySums" "tapeSize" "I") (by decide +kernel)) (fun _ h9 => h9) rfl (by decide +kernel) rfl rfl (Nat.le_of_ble_eq_true rfl) dX1_key_7 (fun H locs hP hD hS => ?_)
  have hP : va_P (dC, dI) vwCl [(h, .inr (1, [.ref qt, .int (nI 0), .ref qk, .ref qs, .ref qm, .int hs])), (qt, .inl (cT, 2000, .inl ft)), (qk, .inl (cK, 16, .inl fk))] H := hP
  have hD : va_D A [(h, .inr (1, [.ref qt, .int (nI 0), .ref qk, .ref qs, .ref qm, .int hs])), (qt, .inl (cT, 2000, .inl ft)), (qk, .inl (cK, 16, .inl fk))] := hD
  refine lv_iload_n hx hb dX1_key_10 rfl (lv_at hl 0 rfl) ?_
  refine lv_bipush (v := 16) hx hb dX1_key_11 (by decide) ?_
  refine lv_icmp_le (tgt := 18) hx hb dX1_key_13 (by decide) (fun hc => ?_) (fun hc => ?_)
  · skip
    exact absurd hc (nI_ge (a := 16) (b := tn) h1 (by omega))
  · skip
    refine lv_iconst (v := (-1)) hx hb dX1_key_16 (by decide) ?_
    have hP9 := hP.sub (ws' := [(h, .inr (1, [.ref qt, .int (nI 0), .ref qk, .ref qs, .ref qm, .int hs])), (qt, .inl (cT, 2000, .inl ft)), (qk, .inl (cK, 16, .inl fk))]) [0, 1, 2] rfl
    have hD9 := hD.sub (ws' := [(h, .inr (1, [.ref qt, .int (nI 0), .ref qk, .ref qs, .ref qm, .int hs])), (qt, .inl (cT, 2000, .inl ft)), (qk, .inl (cK, 16, .inl fk))]) [0, 1, 2] (by decide) rfl
    have hK9 := hK.sub (tys' := [(cT, .byte), (cK, .byte)]) [0, 1] rfl
    exact W.iret (v := (-1)) hx hb hr (fun t ht hW => ⟨⟨(-1), (), rfl, rfl, by rw [ht]; exact hP9, va_K.moved hW.alike hK9, hD9⟩, hS.F ht⟩) hS.2.2 dX1_key_17

set_option maxHeartbeats 4000000 in
set_option maxRecDepth 100000 in
/-- key -/
theorem c_key_ok (l : Launch) (dC : Nat → ClassId) (dI : Nat → Nat → Nat) (sz : Nat) (h qt qk qs qm : Nat) (cT cK : ClassId) (tn : Nat) (hs : Int32) (ft fk : Nat → Int32) (h1 : tn ≤ 16) : Met l yX1_key wsX1_key ({ frames := 0, cells := 0, slots := 0, locals := 0 }) (va_Pc [.ref h] (fun U => U.heap.size = sz ∧ va_P (dC, dI) vwCl [(h, .inr (1, [.ref qt, .int (nI tn), .ref qk, .ref qs, .ref qm, .int hs])), (qt, .inl (cT, 2000, .inl ft)), (qk, .inl (cK, 16, .inl fk))] U.heap ∧ va_K (dC, dI) vwCl [(cT, .byte), (cK, .byte)] U ∧ va_D (fun _ => True) [(h, .inr (1, [.ref qt, .int (nI tn), .ref qk, .ref qs, .ref qm, .int hs])), (qt, .inl (cT, 2000, .inl ft)), (qk, .inl (cK, 16, .inl fk))])) (va_Qi (fun (r : Int32) (u : Nat → Int32) => r = nI tn ∧ ∀ j, j < 16 → u j &&& 255 = (if j < tn then ft j else 0) &&& 255) (fun (u : Nat → Int32) t => kz_B dC dI [(cT, .byte), (cK, .byte)] (va_A [(h, .inr (1, [.ref qt, .int (nI tn), .ref qk, .ref qs, .ref qm, .int hs])), (qt, .inl (cT, 2000, .inl ft)), (qk, .inl (cK, 16, .inl fk))] sz) [(h, .inr (1, [.ref qt, .int (nI 0), .ref qk, .ref qs, .ref qm, .int hs])), (qt, .inl (cT, 2000, .inl ft)), (qk, .inl (cK, 16, .inl u))] t) (va_A [(h, .inr (1, [.ref qt, .int (nI tn), .ref qk, .ref qs, .ref qm, .int hs])), (qt, .inl (cT, 2000, .inl ft)), (qk, .inl (cK, 16, .inl fk))] sz)) 0 0 (va_A [(h, .inr (1, [.ref qt, .int (nI tn), .ref qk, .ref qs, .ref qm, .int hs])), (qt, .inl (cT, 2000, .inl ft)), (qk, .inl (cK, 16, .inl fk))] sz) := by
  refine Met.ofW (cc := cX1_key) (maxL := 3) (ret := (some .int)) (by decide) rfl ?_
  intro p e s m args below meth c s₁ B hml hv
  obtain ⟨rfl, hsz, hP, hK, hD0⟩ := hv
  have hx := B.exec
  have hb := B.bytes
  have hr := B.returns
  have hts := atoms_spec (ws := wsX1_key) B.pre
  have hown : s.vm.findClass RX1 = some m.cls := findClass_of_methodNamed B.named
  have hlocks := B.notSynchronized
  subst hsz
  have hD := hD0.self (sz := s.heap.size)
  generalize hAe : va_A [(h, .inr (1, [.ref qt, .int (nI tn), .ref qk, .ref qs, .ref qm, .int hs])), (qt, .inl (cT, 2000, .inl ft)), (qk, .inl (cK, 16, .inl fk))] s.heap.size = A at hD  ⊢
  have hA : ∀ q : Nat, s.heap.size ≤ q → A q := fun q h => by rw [← hAe]; exact Or.inr h
  have hS : va_S A s.heap s.heap [] := va_S.rf
  have hP : va_P (dC, dI) vwCl [(h, .inr (1, [.ref qt, .int (nI tn), .ref qk, .ref qs, .ref qm, .int hs])), (qt, .inl (cT, 2000, .inl ft)), (qk, .inl (cK, 16, .inl fk))] s.heap := hP
  have hl := lv_entry ([.ref h]) (n := 3) (Nat.le_of_ble_eq_true rfl)
  rw [lg_entry_eq]
  generalize (lg_sl ([.ref h]) ++ List.replicate (3 - (lg_sl ([.ref h])).length) Slot.unset).toArray = ls at hl ⊢
  have hl : lv_has ls 3 [(0, .ref h)] := hl
  refine lv_aload_n hx hb dX1_key_0 rfl (lv_at hl 0 rfl) ?_
  refine va_get (D := (dC, dI)) (ci := 1) (v := .int (nI tn)) (C := RX1) (T := TX1) (N := 6) hx hb hts (by decide +kernel) hown hK hP 0 rfl rfl 1 (by decide) (hts (.fieldLink RX1 13 "KeySums" "tapeSize" "I") (by decide +kernel)) (fun _ h9 => h9) rfl dX1_key_1 ?_
  refine lv_istore_n (lv' := [(1, .int (nI tn)), (0, .ref h)]) hx hb dX1_key_4 rfl hl (by decide) rfl (fun ls hl => ?_)
  refine lv_aload_n hx hb dX1_key_5 rfl (lv_at hl 1 rfl) ?_
  refine lv_iconst (v := 0) hx hb dX1_key_6 (by decide) ?_
  refine kz_top (y := nI 0) nI_0.symm ?_
  refine va_put (D := (dC, dI)) (ci := 1) (v := .int (nI 0)) (ty := .int) (C := RX1) (T := TX1) (N := 6) hx hb hts (by decide +kernel) tyX1 tyX1_ok nmX1 hown hK hP hD hS 0 rfl rfl 1 (by decide) (hts (.fieldLink RX1 13 "KeySums" "tapeSize" "I") (by decide +kernel)) (fun _ h9 => h9) rfl (by decide +kernel) rfl rfl (Nat.le_of_ble_eq_true rfl) dX1_key_7 (fun H locs hP hD hS => ?_)
  have hP : va_P (dC, dI) vwCl [(h, .inr (1, [.ref qt, .int (nI 0), .ref qk, .ref qs, .ref qm, .int hs])), (qt, .inl (cT, 2000, .inl ft)), (qk, .inl (cK, 16, .inl fk))] H := hP
  have hD : va_D A [(h, .inr (1, [.ref qt, .int (nI 0), .ref qk, .ref qs, .ref qm, .int hs])), (qt, .inl (cT, 2000, .inl ft)), (qk, .inl (cK, 16, .inl fk))] := hD
  refine lv_iload_n hx hb dX1_key_10 rfl (lv_at hl 0 rfl) ?_
  refine lv_bipush (v := 16) hx hb dX1_key_11 (by decide) ?_
  refine lv_icmp_le (tgt := 18) hx hb dX1_key_13 (by decide) (fun hc => ?_) (fun hc => ?_)
  · skip
    refine lv_iconst (v := 0) hx hb dX1_key_18 (by decide) ?_
    refine kz_top (y := nI 0) nI_0.symm ?_
    refine lv_istore_n (lv' := [(2, .int (nI 0)), (1, .int (nI tn)), (0, .ref h)]) hx hb dX1_key_19 rfl hl (by decide) rfl (fun ls hl => ?_)
    refine kz_loop (σ := Nat → Int32) (fun i x ls H locs => (∀ j, j < i → x j &&& 255 = (if j < tn then ft j else 0) &&& 255) ∧ lv_has ls 3 [(2, .int (nI i)), (1, .int (nI tn)), (0, .ref h)] ∧ va_P (dC, dI) vwCl [(h, .inr (1, [.ref qt, .int (nI 0), .ref qk, .ref qs, .ref qm, .int hs])), (qt, .inl (cT, 2000, .inl ft)), (qk, .inl (cK, 16, .inl x))] H ∧ va_D A [(h, .inr (1, [.ref qt, .int (nI 0), .ref qk, .ref qs, .ref qm, .int hs])), (qt, .inl (cT, 2000, .inl ft)), (qk, .inl (cK, 16, .inl x))] ∧ va_S A s.heap H locs) 16 ?_ ?_ 0 fk ls _ _ (Nat.zero_le _) ⟨fun j hj => absurd hj (Nat.not_lt_zero j), lv_sub hl [0, 1, 2] rfl, hP, hD, hS⟩
    · skip
      intro i x ls H locs hlt hI ih
      obtain ⟨hv, hl, hP, hD, hS⟩ := hI
      refine lv_iload_n hx hb dX1_key_20 rfl (lv_at hl 0 rfl) ?_
      refine lv_bipush (v := 16) hx hb dX1_key_21 (by decide) ?_
      refine lv_icmp_ge (tgt := 53) hx hb dX1_key_23 (by decide) (fun hc => ?_) (fun hc => ?_)
      · skip
        exact absurd hc (nI_ge (a := i) (b := 16) hlt (by decide))
      · skip
        refine lv_aload_n hx hb dX1_key_26 rfl (lv_at hl 2 rfl) ?_
        refine va_get (D := (dC, dI)) (ci := 1) (v := .ref qk) (C := RX1) (T := TX1) (N := 6) hx hb hts (by decide +kernel) hown hK hP 0 rfl rfl 2 (by decide) (hts (.fieldLink RX1 17 "KeySums" "keyBytes" "[B") (by decide +kernel)) (fun _ h9 => h9) rfl dX1_key_27 ?_
        refine lv_iload_n hx hb dX1_key_30 rfl (lv_at hl 0 rfl) ?_
        refine lv_iload_n hx hb dX1_key_31 rfl (lv_at hl 0 rfl) ?_
        refine lv_iload_n hx hb dX1_key_32 rfl (lv_at hl 1 rfl) ?_
        refine lv_icmp_ge (tgt := 45) hx hb dX1_key_33 (by decide) (fun hc => ?_) (fun hc => ?_)
        · skip
          have hge : ¬ i < tn := fun q => absurd hc (nI_ge q (by omega))
          refine lv_iconst (v := 0) hx hb dX1_key_45 (by decide) ?_
          refine kz_bast (j := i) (x := 0) (x2 := 0) hx hb hK hP hD hS 2 1 rfl rfl (hlt) (by decide) (by decide) dX1_key_46 (fun H locs hP hD hS => ?_)
          have hP : va_P (dC, dI) vwCl [(h, .inr (1, [.ref qt, .int (nI 0), .ref qk, .ref qs, .ref qm, .int hs])), (qt, .inl (cT, 2000, .inl ft)), (qk, .inl (cK, 16, .inl (upd x i 0)))] H := hP
          have hD : va_D A [(h, .inr (1, [.ref qt, .int (nI 0), .ref qk, .ref qs, .ref qm, .int hs])), (qt, .inl (cT, 2000, .inl ft)), (qk, .inl (cK, 16, .inl (upd x i 0)))] := hD
          refine lv_iinc (v := nI (i + 1)) (lv' := [(2, .int (nI (i + 1))), (1, .int (nI tn)), (0, .ref h)]) hx hb dX1_key_47 hl (k := 0) rfl (nI_1 i) (by decide) rfl (fun ls hl => ?_)
          refine lv_goto (tgt := 20) hx hb dX1_key_50 (by decide) ?_
          refine ih _ ls H locs ⟨?_, lv_sub hl [0, 1, 2] rfl, hP, hD, hS⟩
          intro j hj
          by_cases q : j = i
          · subst q; rw [pk_us, if_neg hge]
          · rw [pk_un q]; exact hv j (by omega)
        · skip
          have hlt2 : i < tn := by
            rcases Nat.lt_or_ge i tn with q | q
            · exact q
            · exact absurd (nI_le q (by omega)) hc
          refine lv_aload_n hx hb dX1_key_36 rfl (lv_at hl 2 rfl) ?_
          refine va_get (D := (dC, dI)) (ci := 1) (v := .ref qt) (C := RX1) (T := TX1) (N := 6) hx hb hts (by decide +kernel) hown hK hP 0 rfl rfl 0 (by decide) (hts (.fieldLink RX1 9 "KeySums" "tape" "[B") (by decide +kernel)) (fun _ h9 => h9) rfl dX1_key_37 ?_
          refine lv_iload_n hx hb dX1_key_40 rfl (lv_at hl 0 rfl) ?_
          refine kz_bald (j := i) hx hb hK hP 1 0 rfl rfl (show i < 2000 by omega) (by decide) dX1_key_41 ?_
          refine lv_goto (tgt := 46) hx hb dX1_key_42 (by decide) ?_
          refine kz_bast (j := i) (x := ft i) (x2 := (ft i).toInt8.toInt32) hx hb hK hP hD hS 2 1 rfl rfl (hlt) (by decide) rfl dX1_key_46 (fun H locs hP hD hS => ?_)
          have hP : va_P (dC, dI) vwCl [(h, .inr (1, [.ref qt, .int (nI 0), .ref qk, .ref qs, .ref qm, .int hs])), (qt, .inl (cT, 2000, .inl ft)), (qk, .inl (cK, 16, .inl (upd x i ((ft i).toInt8.toInt32))))] H := hP
          have hD : va_D A [(h, .inr (1, [.ref qt, .int (nI 0), .ref qk, .ref qs, .ref qm, .int hs])), (qt, .inl (cT, 2000, .inl ft)), (qk, .inl (cK, 16, .inl (upd x i ((ft i).toInt8.toInt32))))] := hD
          refine lv_iinc (v := nI (i + 1)) (lv' := [(2, .int (nI (i + 1))), (1, .int (nI tn)), (0, .ref h)]) hx hb dX1_key_47 hl (k := 0) rfl (nI_1 i) (by decide) rfl (fun ls hl => ?_)
          refine lv_goto (tgt := 20) hx hb dX1_key_50 (by decide) ?_
          refine ih _ ls H locs ⟨?_, lv_sub hl [0, 1, 2] rfl, hP, hD, hS⟩
          intro j hj
          by_cases q : j = i
          · subst q; rw [pk_us, if_pos hlt2]; exact bp_b _
          · rw [pk_un q]; exact hv j (by omega)
    · skip
      intro x ls H locs hI
      obtain ⟨hv, hl, hP, hD, hS⟩ := hI
      refine lv_iload_n hx hb dX1_key_20 rfl (lv_at hl 0 rfl) ?_
      refine lv_bipush (v := 16) hx hb dX1_key_21 (by decide) ?_
      refine lv_icmp_ge (tgt := 53) hx hb dX1_key_23 (by decide) (fun hc => ?_) (fun hc => ?_)
      · skip
        refine lv_iload_n hx hb dX1_key_53 rfl (lv_at hl 1 rfl) ?_
        have hP9 := hP.sub (ws' := [(h, .inr (1, [.ref qt, .int (nI 0), .ref qk, .ref qs, .ref qm, .int hs])), (qt, .inl (cT, 2000, .inl ft)), (qk, .inl (cK, 16, .inl x))]) [0, 1, 2] rfl
        have hD9 := hD.sub (ws' := [(h, .inr (1, [.ref qt, .int (nI 0), .ref qk, .ref qs, .ref qm, .int hs])), (qt, .inl (cT, 2000, .inl ft)), (qk, .inl (cK, 16, .inl x))]) [0, 1, 2] (by decide) rfl
        have hK9 := hK.sub (tys' := [(cT, .byte), (cK, .byte)]) [0, 1] rfl
        exact W.iret (v := (nI tn)) hx hb hr (fun t ht hW => ⟨⟨(nI tn), x, rfl, ⟨rfl, hv⟩, by rw [ht]; exact hP9, va_K.moved hW.alike hK9, hD9⟩, hS.F ht⟩) hS.2.2 dX1_key_54
      · skip
        exact absurd (nI_le (a := 16) (b := 16) (Nat.le_refl _) (by decide)) hc
  · skip
    exact absurd (nI_le (a := tn) (b := 16) h1 (by decide)) hc

set_option maxHeartbeats 4000000 in
set_option maxRecDepth 100000 in
/-- sumAt, none -/
theorem c_sumAt_no (l : Launch) (dC : Nat → ClassId) (dI : Nat → Nat → Nat) (sz : Nat) (h qt qk qs qm : Nat) (cM : ClassId) (tn hs : Int32) (fs : Nat → Int32) (x : Int32) (h1 : hs = 0 ∨ x < 0 ∨ 16 ≤ x) : Met l yX1_sumAt wsX1_sumAt ({ frames := 0, cells := 0, slots := 0, locals := 0 }) (va_Pc [.ref h, .int x] (fun U => U.heap.size = sz ∧ va_P (dC, dI) vwCl [(h, .inr (1, [.ref qt, .int tn, .ref qk, .ref qs, .ref qm, .int hs])), (qm, .inl (cM, 4, .inl fs))] U.heap ∧ va_K (dC, dI) vwCl [(cM, .int)] U ∧ va_D (fun _ => True) [(h, .inr (1, [.ref qt, .int tn, .ref qk, .ref qs, .ref qm, .int hs])), (qm, .inl (cM, 4, .inl fs))])) (vp_Si (fun r => r = -1)) 0 0 (fun _ => False) := by
  refine Met.ofW (cc := cX1_sumAt) (maxL := 2) (ret := (some .int)) (by decide) rfl ?_
  intro p e s m args below meth c s₁ B hml hv
  obtain ⟨rfl, hsz, hP, hK, hD0⟩ := hv
  have hx := B.exec
  have hb := B.bytes
  have hr := B.returns
  have hts := atoms_spec (ws := wsX1_sumAt) B.pre
  have hown : s.vm.findClass RX1 = some m.cls := findClass_of_methodNamed B.named
  have hlocks := B.notSynchronized
  subst hsz
  have hD := hD0.self (sz := s.heap.size)
  generalize hAe : va_A [(h, .inr (1, [.ref qt, .int tn, .ref qk, .ref qs, .ref qm, .int hs])), (qm, .inl (cM, 4, .inl fs))] s.heap.size = A at hD  ⊢
  have hA : ∀ q : Nat, s.heap.size ≤ q → A q := fun q h => by rw [← hAe]; exact Or.inr h
  have hS : va_S A s.heap s.heap [] := va_S.rf
  have hP : va_P (dC, dI) vwCl [(h, .inr (1, [.ref qt, .int tn, .ref qk, .ref qs, .ref qm, .int hs])), (qm, .inl (cM, 4, .inl fs))] s.heap := hP
  have hl := lv_entry ([.ref h, .int x]) (n := 2) (Nat.le_of_ble_eq_true rfl)
  rw [lg_entry_eq]
  generalize (lg_sl ([.ref h, .int x]) ++ List.replicate (2 - (lg_sl ([.ref h, .int x])).length) Slot.unset).toArray = ls at hl ⊢
  have hl : lv_has ls 2 [(0, .ref h), (1, .int x)] := hl
  refine lv_aload_n hx hb dX1_sumAt_0 rfl (lv_at hl 0 rfl) ?_
  refine va_get (D := (dC, dI)) (ci := 1) (v := .int hs) (C := RX1) (T := TX1) (N := 6) hx hb hts (by decide +kernel) hown hK hP 0 rfl rfl 5 (by decide) (hts (.fieldLink RX1 31 "KeySums" "hasSum" "Z") (by decide +kernel)) (fun _ h9 => h9) rfl dX1_sumAt_1 ?_
  refine lv_if_eq (tgt := 17) hx hb dX1_sumAt_4 (by decide) (fun hc => ?_) (fun hc => ?_)
  · skip
    refine lv_iconst (v := (-1)) hx hb dX1_sumAt_17 (by decide) ?_
    exact W.iret (v := (-1)) hx hb hr (fun t ht hW => ⟨(-1), rfl, rfl, ht⟩) (fun q h => by cases h) dX1_sumAt_18
  · skip
    have h1 := h1.resolve_left hc
    refine lv_iload_n hx hb dX1_sumAt_7 rfl (lv_at hl 1 rfl) ?_
    refine lv_if_lt (tgt := 17) hx hb dX1_sumAt_8 (by decide) (fun hc => ?_) (fun hc => ?_)
    · skip
      refine lv_iconst (v := (-1)) hx hb dX1_sumAt_17 (by decide) ?_
      exact W.iret (v := (-1)) hx hb hr (fun t ht hW => ⟨(-1), rfl, rfl, ht⟩) (fun q h => by cases h) dX1_sumAt_18
    · skip
      have h1 := h1.resolve_left hc
      refine lv_iload_n hx hb dX1_sumAt_11 rfl (lv_at hl 1 rfl) ?_
      refine lv_bipush (v := 16) hx hb dX1_sumAt_12 (by decide) ?_
      refine lv_icmp_lt (tgt := 19) hx hb dX1_sumAt_14 (by decide) (fun hc => ?_) (fun hc => ?_)
      · skip
        exact absurd hc (Int32.not_lt.mpr h1)
      · skip
        refine lv_iconst (v := (-1)) hx hb dX1_sumAt_17 (by decide) ?_
        exact W.iret (v := (-1)) hx hb hr (fun t ht hW => ⟨(-1), rfl, rfl, ht⟩) (fun q h => by cases h) dX1_sumAt_18

set_option maxHeartbeats 4000000 in
set_option maxRecDepth 100000 in
/-- sumAt -/
theorem c_sumAt_ok (l : Launch) (dC : Nat → ClassId) (dI : Nat → Nat → Nat) (sz : Nat) (h qt qk qs qm : Nat) (cM : ClassId) (tn : Int32) (fs : Nat → Int32) (i : Nat) (h1 : i < 16) : Met l yX1_sumAt wsX1_sumAt ({ frames := 0, cells := 0, slots := 0, locals := 0 }) (va_Pc [.ref h, .int (nI i)] (fun U => U.heap.size = sz ∧ va_P (dC, dI) vwCl [(h, .inr (1, [.ref qt, .int tn, .ref qk, .ref qs, .ref qm, .int 1])), (qm, .inl (cM, 4, .inl fs))] U.heap ∧ va_K (dC, dI) vwCl [(cM, .int)] U ∧ va_D (fun _ => True) [(h, .inr (1, [.ref qt, .int tn, .ref qk, .ref qs, .ref qm, .int 1])), (qm, .inl (cM, 4, .inl fs))])) (vp_Si (fun r => r = ks_us (fs (i / 4)) (nI (8 * (i % 4))) &&& 255)) 0 0 (fun _ => False) := by
  refine Met.ofW (cc := cX1_sumAt) (maxL := 2) (ret := (some .int)) (by decide) rfl ?_
  intro p e s m args below meth c s₁ B hml hv
  obtain ⟨rfl, hsz, hP, hK, hD0⟩ := hv
  have hx := B.exec
  have hb := B.bytes
  have hr := B.returns
  have hts := atoms_spec (ws := wsX1_sumAt) B.pre
  have hown : s.vm.findClass RX1 = some m.cls := findClass_of_methodNamed B.named
  have hlocks := B.notSynchronized
  subst hsz
  have hD := hD0.self (sz := s.heap.size)
  generalize hAe : va_A [(h, .inr (1, [.ref qt, .int tn, .ref qk, .ref qs, .ref qm, .int 1])), (qm, .inl (cM, 4, .inl fs))] s.heap.size = A at hD  ⊢
  have hA : ∀ q : Nat, s.heap.size ≤ q → A q := fun q h => by rw [← hAe]; exact Or.inr h
  have hS : va_S A s.heap s.heap [] := va_S.rf
  have hP : va_P (dC, dI) vwCl [(h, .inr (1, [.ref qt, .int tn, .ref qk, .ref qs, .ref qm, .int 1])), (qm, .inl (cM, 4, .inl fs))] s.heap := hP
  have hl := lv_entry ([.ref h, .int (nI i)]) (n := 2) (Nat.le_of_ble_eq_true rfl)
  rw [lg_entry_eq]
  generalize (lg_sl ([.ref h, .int (nI i)]) ++ List.replicate (2 - (lg_sl ([.ref h, .int (nI i)])).length) Slot.unset).toArray = ls at hl ⊢
  have hl : lv_has ls 2 [(0, .ref h), (1, .int (nI i))] := hl
  refine lv_aload_n hx hb dX1_sumAt_0 rfl (lv_at hl 0 rfl) ?_
  refine va_get (D := (dC, dI)) (ci := 1) (v := .int 1) (C := RX1) (T := TX1) (N := 6) hx hb hts (by decide +kernel) hown hK hP 0 rfl rfl 5 (by decide) (hts (.fieldLink RX1 31 "KeySums" "hasSum" "Z") (by decide +kernel)) (fun _ h9 => h9) rfl dX1_sumAt_1 ?_
  refine lv_if_eq (tgt := 17) hx hb dX1_sumAt_4 (by decide) (fun hc => ?_) (fun hc => ?_)
  · skip
    exact absurd hc (by decide)
  · skip
    refine lv_iload_n hx hb dX1_sumAt_7 rfl (lv_at hl 1 rfl) ?_
    refine lv_if_lt (tgt := 17) hx hb dX1_sumAt_8 (by decide) (fun hc => ?_) (fun hc => ?_)
    · skip
      exact absurd hc (nI_pos (n := i) (by omega))
    · skip
      refine lv_iload_n hx hb dX1_sumAt_11 rfl (lv_at hl 1 rfl) ?_
      refine lv_bipush (v := 16) hx hb dX1_sumAt_12 (by decide) ?_
      refine lv_icmp_lt (tgt := 19) hx hb dX1_sumAt_14 (by decide) (fun hc => ?_) (fun hc => ?_)
      · skip
        refine lv_aload_n hx hb dX1_sumAt_19 rfl (lv_at hl 0 rfl) ?_
        refine va_get (D := (dC, dI)) (ci := 1) (v := .ref qm) (C := RX1) (T := TX1) (N := 6) hx hb hts (by decide +kernel) hown hK hP 0 rfl rfl 4 (by decide) (hts (.fieldLink RX1 27 "KeySums" "keptSum" "[I") (by decide +kernel)) (fun _ h9 => h9) rfl dX1_sumAt_20 ?_
        refine lv_iload_n hx hb dX1_sumAt_23 rfl (lv_at hl 1 rfl) ?_
        refine lv_iconst (v := 2) hx hb dX1_sumAt_24 (by decide) ?_
        refine lv_ishr hx hb dX1_sumAt_25 ?_
        refine kz_top (y := nI (i / 4)) (pk_shrN (by omega) _ 2 (by decide)) ?_
        refine kz_iald (j := (i / 4)) hx hb hK hP 1 0 rfl rfl (show i / 4 < 4 by omega) (by decide) dX1_sumAt_26 ?_
        refine lv_bipush (v := 8) hx hb dX1_sumAt_27 (by decide) ?_
        refine lv_iload_n hx hb dX1_sumAt_29 rfl (lv_at hl 1 rfl) ?_
        refine lv_iconst (v := 3) hx hb dX1_sumAt_30 (by decide) ?_
        refine lv_iand hx hb dX1_sumAt_31 ?_
        refine kz_top (y := nI (i % 4)) (pk_andN (by omega) 2 (by decide)) ?_
        refine lv_imul hx hb dX1_sumAt_32 ?_
        refine kz_top (y := nI (8 * (i % 4))) (pk_mul 8 (i % 4)) ?_
        refine lv_iushr (v := ks_us (fs (i / 4)) (nI (8 * (i % 4)))) hx hb dX1_sumAt_33 rfl ?_
        refine lv_sipush (v := 255) hx hb dX1_sumAt_34 (by decide) ?_
        refine lv_iand hx hb dX1_sumAt_37 ?_
        exact W.iret (v := ((ks_us (fs (i / 4)) (nI (8 * (i % 4)))) &&& 255)) hx hb hr (fun t ht hW => ⟨((ks_us (fs (i / 4)) (nI (8 * (i % 4)))) &&& 255), rfl, rfl, ht⟩) (fun q h => by cases h) dX1_sumAt_38
      · skip
        exact absurd (nI_lt (a := i) (b := 16) h1 (by decide)) hc
end
section
set_option maxHeartbeats 4000000 in
set_option maxRecDepth 100000 in
/-- sum -/
theorem c_sum_n (l : Launch) (dC : Nat → ClassId) (dI : Nat → Nat → Nat) (sz : Nat) (tS tT h qt qk qs qw qm : Nat) (cK cW cM : ClassId) (tn hs : Int32) (n : Nat) (v : ks_Q) (fk wd fs f : Nat → Int32) (y : Int32) (h2 : n + 16 < 2 ^ 28) (hi : ks_inv f n wd v) (hz : y = 0) : Met l yX1_sum wsX1_sum ({ frames := 4, cells := 0, slots := 0, locals := 160 }) (va_Pc [.ref h, .int y] (fun U => U.heap.size = sz ∧ va_P (dC, dI) vwCl [(h, .inr (1, [.ref qt, .int tn, .ref qk, .ref qs, .ref qm, .int hs])), (qk, .inl (cK, 16, .inl fk)), (qs, .inr (0, [.ref qw, .int (nI n), .int v.1, .int v.2.1, .int v.2.2.1, .int v.2.2.2])), (qw, .inl (cW, 16, .inl wd)), (qm, .inl (cM, 4, .inl fs))] U.heap ∧ va_K (dC, dI) vwCl [(cK, .byte), (cW, .int), (cM, .int)] U ∧ va_D (fun _ => True) [(h, .inr (1, [.ref qt, .int tn, .ref qk, .ref qs, .ref qm, .int hs])), (qk, .inl (cK, 16, .inl fk)), (qs, .inr (0, [.ref qw, .int (nI n), .int v.1, .int v.2.1, .int v.2.2.1, .int v.2.2.2])), (qw, .inl (cW, 16, .inl wd)), (qm, .inl (cM, 4, .inl fs))] ∧ ks_tab tS tT (va_A [(h, .inr (1, [.ref qt, .int tn, .ref qk, .ref qs, .ref qm, .int hs])), (qk, .inl (cK, 16, .inl fk)), (qs, .inr (0, [.ref qw, .int (nI n), .int v.1, .int v.2.1, .int v.2.2.1, .int v.2.2.2])), (qw, .inl (cW, 16, .inl wd)), (qm, .inl (cM, 4, .inl fs))] sz) U U.heap ∧ ks_nw U)) (va_Qi (fun (r : Int32) (u : Nat → Int32) => r = nI n) (fun (u : Nat → Int32) t => kz_B dC dI [(cK, .byte), (cW, .int), (cM, .int)] (va_A [(h, .inr (1, [.ref qt, .int tn, .ref qk, .ref qs, .ref qm, .int hs])), (qk, .inl (cK, 16, .inl fk)), (qs, .inr (0, [.ref qw, .int (nI n), .int v.1, .int v.2.1, .int v.2.2.1, .int v.2.2.2])), (qw, .inl (cW, 16, .inl wd)), (qm, .inl (cM, 4, .inl fs))] sz) [(h, .inr (1, [.ref qt, .int tn, .ref qk, .ref qs, .ref qm, .int 1])), (qk, .inl (cK, 16, .inl fk)), (qs, .inr (0, [.ref qw, .int (nI 0), .int 1732584193, .int (-271733879), .int (-1732584194), .int 271733878])), (qw, .inl (cW, 16, .inl u)), (qm, .inl (cM, 4, .inl (upd (upd (upd (upd fs 0 (ks_sum f n).1) 1 (ks_sum f n).2.1) 2 (ks_sum f n).2.2.1) 3 (ks_sum f n).2.2.2)))] t) (va_A [(h, .inr (1, [.ref qt, .int tn, .ref qk, .ref qs, .ref qm, .int hs])), (qk, .inl (cK, 16, .inl fk)), (qs, .inr (0, [.ref qw, .int (nI n), .int v.1, .int v.2.1, .int v.2.2.1, .int v.2.2.2])), (qw, .inl (cW, 16, .inl wd)), (qm, .inl (cM, 4, .inl fs))] sz)) 0 0 (va_A [(h, .inr (1, [.ref qt, .int tn, .ref qk, .ref qs, .ref qm, .int hs])), (qk, .inl (cK, 16, .inl fk)), (qs, .inr (0, [.ref qw, .int (nI n), .int v.1, .int v.2.1, .int v.2.2.1, .int v.2.2.2])), (qw, .inl (cW, 16, .inl wd)), (qm, .inl (cM, 4, .inl fs))] sz) := by
  refine Met.ofW (cc := cX1_sum) (maxL := 4) (ret := (some .int)) (by decide) rfl ?_
  intro p e s m args below meth c s₁ B hml hv
  obtain ⟨rfl, hsz, hP, hK, hD0, hT, hN⟩ := hv
  have hx := B.exec
  have hb := B.bytes
  have hr := B.returns
  have hts := atoms_spec (ws := wsX1_sum) B.pre
  have hown : s.vm.findClass RX1 = some m.cls := findClass_of_methodNamed B.named
  have hlocks := B.notSynchronized
  subst hsz
  have hD := hD0.self (sz := s.heap.size)
  generalize hAe : va_A [(h, .inr (1, [.ref qt, .int tn, .ref qk, .ref qs, .ref qm, .int hs])), (qk, .inl (cK, 16, .inl fk)), (qs, .inr (0, [.ref qw, .int (nI n), .int v.1, .int v.2.1, .int v.2.2.1, .int v.2.2.2])), (qw, .inl (cW, 16, .inl wd)), (qm, .inl (cM, 4, .inl fs))] s.heap.size = A at hD hT ⊢
  have hA : ∀ q : Nat, s.heap.size ≤ q → A q := fun q h => by rw [← hAe]; exact Or.inr h
  have hS : va_S A s.heap s.heap [] := va_S.rf
  have hP : va_P (dC, dI) vwCl [(h, .inr (1, [.ref qt, .int tn, .ref qk, .ref qs, .ref qm, .int hs])), (qk, .inl (cK, 16, .inl fk)), (qs, .inr (0, [.ref qw, .int (nI n), .int v.1, .int v.2.1, .int v.2.2.1, .int v.2.2.2])), (qw, .inl (cW, 16, .inl wd)), (qm, .inl (cM, 4, .inl fs))] s.heap := hP
  have hl := lv_entry ([.ref h, .int y]) (n := 4) (Nat.le_of_ble_eq_true rfl)
  rw [lg_entry_eq]
  generalize (lg_sl ([.ref h, .int y]) ++ List.replicate (4 - (lg_sl ([.ref h, .int y])).length) Slot.unset).toArray = ls at hl ⊢
  have hl : lv_has ls 4 [(0, .ref h), (1, .int y)] := hl
  refine lv_aload_n hx hb dX1_sum_0 rfl (lv_at hl 0 rfl) ?_
  refine va_get (D := (dC, dI)) (ci := 1) (v := .ref qs) (C := RX1) (T := TX1) (N := 6) hx hb hts (by decide +kernel) hown hK hP 0 rfl rfl 3 (by decide) (hts (.fieldLink RX1 23 "KeySums" "summer" "LKeySums$Summer;") (by decide +kernel)) (fun _ h9 => h9) rfl dX1_sum_1 ?_
  refine va_getN (D := (dC, dI)) (ci := 0) (v := .int (nI n)) (C := RX0) (T := TX0) (N := 6) hx hb hts (by decide +kernel) hown hK hP 2 rfl rfl 1 (by decide) (va_Nw.use rfl hN.1) (fun _ h9 => h9) rfl dX1_sum_4 ?_
  refine lv_istore_n (lv' := [(2, .int (nI n)), (0, .ref h), (1, .int y)]) hx hb dX1_sum_7 rfl hl (by decide) rfl (fun ls hl => ?_)
  refine lv_iload_n hx hb dX1_sum_8 rfl (lv_at hl 2 rfl) ?_
  refine lv_if_eq (tgt := 39) hx hb dX1_sum_9 (by decide) (fun hc => ?_) (fun hc => ?_)
  · skip
    refine lv_aload_n hx hb dX1_sum_39 rfl (lv_at hl 1 rfl) ?_
    refine va_get (D := (dC, dI)) (ci := 1) (v := .ref qs) (C := RX1) (T := TX1) (N := 6) hx hb hts (by decide +kernel) hown hK hP 0 rfl rfl 3 (by decide) (hts (.fieldLink RX1 23 "KeySums" "summer" "LKeySums$Summer;") (by decide +kernel)) (fun _ h9 => h9) rfl dX1_sum_40 ?_
    have hPc := hP.sub (ws' := [(qs, .inr (0, [.ref qw, .int (nI n), .int v.1, .int v.2.1, .int v.2.2.1, .int v.2.2.2])), (qw, .inl (cW, 16, .inl wd))]) [2, 3] rfl
    have hDc := hD.sub (ws' := [(qs, .inr (0, [.ref qw, .int (nI n), .int v.1, .int v.2.1, .int v.2.2.1, .int v.2.2.2])), (qw, .inl (cW, 16, .inl wd))]) [2, 3] (by decide) rfl
    have hKc := hK.sub (tys' := [(cW, .int)]) [1] rfl
    have hFc := va_free (wc := [(qs, .inr (0, [.ref qw, .int (nI n), .int v.1, .int v.2.1, .int v.2.2.1, .int v.2.2.2])), (qw, .inl (cW, 16, .inl wd))]) hD hS hA [2, 3] rfl
    refine va_callv (va_runVN (As := []) (rest := []) ⟨hx, hb, hml, hown, hts⟩ (c_close l dC dI s.heap.size tS tT qs qw cW n v wd f (by omega) hi) ⟨va_cnB 0 hts gX1_sum_X0_close_n46 rfl rfl rfl hN.2.2.2.2.2.2.2.1 (hts (.initialized RX0) (by decide +kernel)) (by decide +kernel) ⟨Nat.le_of_ble_eq_true rfl, Nat.le_of_ble_eq_true rfl⟩, hts (.instanceMethod yX0_close) (by decide +kernel), hts (.selects RX0 yX0_close yX0_close) (by decide +kernel)⟩ ⟨fun a U g mk q => by obtain ⟨q0, q1, qP, qK, qD, qx0⟩ := q; exact ⟨q0, q1, qP, va_K.moved (u := U) (U := U.calling g mk a) (Vm.Alike.refl U.vm) qK, qD, ks_tab.moved (u := U) (U := U.calling g mk a) (Vm.Alike.refl U.vm) qx0⟩, va_recv hKc hPc (ci := 0) (q0 := 0) rfl rfl, fun U hU hW => ⟨rfl, by rw [hU], by rw [hU]; exact hPc, va_K.moved hW.alike hKc, hDc.weaken (fun _ _ _ _ => trivial), hT.call hS hFc hU hW.alike⟩⟩ rfl rfl hl.1 rfl (lv_room (Nat.le_of_ble_eq_true rfl)) dX1_sum_43 ⟨Nat.zero_le _, Nat.zero_le _⟩) hS (fun q _ h => hFc q h) hFc (fun u t H1 locs ht hvm hw hB hz1 hk1 hS => ?_)
    obtain ⟨wd3, v2⟩ := u
    obtain ⟨hP1, hK1, hD1⟩ := hB
    rw [ht] at hP1
    have hK1 := va_K.moved hvm.symm hK1
    try dsimp only at hw
    obtain ⟨hP, hD⟩ := va_join (wr := [(h, .inr (1, [.ref qt, .int tn, .ref qk, .ref qs, .ref qm, .int hs])), (qk, .inl (cK, 16, .inl fk)), (qm, .inl (cM, 4, .inl fs))]) (w1 := [(qs, .inr (0, [.ref qw, .int (nI (ks_end n + 8)), .int v2.1, .int v2.2.1, .int v2.2.2.1, .int v2.2.2.2])), (qw, .inl (cW, 16, .inl wd3))]) hP hD [2, 3] [0, 1, 4] rfl rfl (by decide) (by decide) hk1 hFc hP1 hD1
    have hP := hP.sub (ws' := [(h, .inr (1, [.ref qt, .int tn, .ref qk, .ref qs, .ref qm, .int hs])), (qk, .inl (cK, 16, .inl fk)), (qs, .inr (0, [.ref qw, .int (nI (ks_end n + 8)), .int v2.1, .int v2.2.1, .int v2.2.2.1, .int v2.2.2.2])), (qw, .inl (cW, 16, .inl wd3)), (qm, .inl (cM, 4, .inl fs))]) [0, 1, 3, 4, 2] rfl
    have hD := hD.sub (ws' := [(h, .inr (1, [.ref qt, .int tn, .ref qk, .ref qs, .ref qm, .int hs])), (qk, .inl (cK, 16, .inl fk)), (qs, .inr (0, [.ref qw, .int (nI (ks_end n + 8)), .int v2.1, .int v2.2.1, .int v2.2.2.1, .int v2.2.2.2])), (qw, .inl (cW, 16, .inl wd3)), (qm, .inl (cM, 4, .inl fs))]) [0, 1, 3, 4, 2] (by decide) rfl
    generalize H1 = H at hP hS ⊢
    have hP : va_P (dC, dI) vwCl [(h, .inr (1, [.ref qt, .int tn, .ref qk, .ref qs, .ref qm, .int hs])), (qk, .inl (cK, 16, .inl fk)), (qs, .inr (0, [.ref qw, .int (nI (ks_end n + 8)), .int v2.1, .int v2.2.1, .int v2.2.2.1, .int v2.2.2.2])), (qw, .inl (cW, 16, .inl wd3)), (qm, .inl (cM, 4, .inl fs))] H := hP
    have hD : va_D A [(h, .inr (1, [.ref qt, .int tn, .ref qk, .ref qs, .ref qm, .int hs])), (qk, .inl (cK, 16, .inl fk)), (qs, .inr (0, [.ref qw, .int (nI (ks_end n + 8)), .int v2.1, .int v2.2.1, .int v2.2.2.1, .int v2.2.2.2])), (qw, .inl (cW, 16, .inl wd3)), (qm, .inl (cM, 4, .inl fs))] := hD
    subst hw
    have hP : va_P (dC, dI) vwCl [(h, .inr (1, [.ref qt, .int tn, .ref qk, .ref qs, .ref qm, .int hs])), (qk, .inl (cK, 16, .inl fk)), (qs, .inr (0, [.ref qw, .int (nI (ks_end n + 8)), .int ((ks_sum f n).1), .int ((ks_sum f n).2.1), .int ((ks_sum f n).2.2.1), .int ((ks_sum f n).2.2.2)])), (qw, .inl (cW, 16, .inl wd3)), (qm, .inl (cM, 4, .inl fs))] H := hP
    have hD : va_D A [(h, .inr (1, [.ref qt, .int tn, .ref qk, .ref qs, .ref qm, .int hs])), (qk, .inl (cK, 16, .inl fk)), (qs, .inr (0, [.ref qw, .int (nI (ks_end n + 8)), .int ((ks_sum f n).1), .int ((ks_sum f n).2.1), .int ((ks_sum f n).2.2.1), .int ((ks_sum f n).2.2.2)])), (qw, .inl (cW, 16, .inl wd3)), (qm, .inl (cM, 4, .inl fs))] := hD
    refine lv_aload_n hx hb dX1_sum_46 rfl (lv_at hl 1 rfl) ?_
    refine va_get (D := (dC, dI)) (ci := 1) (v := .ref qm) (C := RX1) (T := TX1) (N := 6) hx hb hts (by decide +kernel) hown hK hP 0 rfl rfl 4 (by decide) (hts (.fieldLink RX1 27 "KeySums" "keptSum" "[I") (by decide +kernel)) (fun _ h9 => h9) rfl dX1_sum_47 ?_
    refine lv_iconst (v := 0) hx hb dX1_sum_50 (by decide) ?_
    refine kz_top (y := nI 0) (by decide) ?_
    refine lv_aload_n hx hb dX1_sum_51 rfl (lv_at hl 1 rfl) ?_
    refine va_get (D := (dC, dI)) (ci := 1) (v := .ref qs) (C := RX1) (T := TX1) (N := 6) hx hb hts (by decide +kernel) hown hK hP 0 rfl rfl 3 (by decide) (hts (.fieldLink RX1 23 "KeySums" "summer" "LKeySums$Summer;") (by decide +kernel)) (fun _ h9 => h9) rfl dX1_sum_52 ?_
    refine va_getN (D := (dC, dI)) (ci := 0) (v := .int ((ks_sum f n).1)) (C := RX0) (T := TX0) (N := 6) hx hb hts (by decide +kernel) hown hK hP 2 rfl rfl 2 (by decide) (va_Nw.use rfl hN.2.1) (fun _ h9 => h9) rfl dX1_sum_55 ?_
    refine kz_iast (j := 0) hx hb hK hP hD hS 4 2 rfl rfl (show 0 < 4 by decide) (by decide) dX1_sum_58 (fun H locs hP hD hS => ?_)
    have hP : va_P (dC, dI) vwCl [(h, .inr (1, [.ref qt, .int tn, .ref qk, .ref qs, .ref qm, .int hs])), (qk, .inl (cK, 16, .inl fk)), (qs, .inr (0, [.ref qw, .int (nI (ks_end n + 8)), .int ((ks_sum f n).1), .int ((ks_sum f n).2.1), .int ((ks_sum f n).2.2.1), .int ((ks_sum f n).2.2.2)])), (qw, .inl (cW, 16, .inl wd3)), (qm, .inl (cM, 4, .inl (upd fs 0 ((ks_sum f n).1))))] H := hP
    have hD : va_D A [(h, .inr (1, [.ref qt, .int tn, .ref qk, .ref qs, .ref qm, .int hs])), (qk, .inl (cK, 16, .inl fk)), (qs, .inr (0, [.ref qw, .int (nI (ks_end n + 8)), .int ((ks_sum f n).1), .int ((ks_sum f n).2.1), .int ((ks_sum f n).2.2.1), .int ((ks_sum f n).2.2.2)])), (qw, .inl (cW, 16, .inl wd3)), (qm, .inl (cM, 4, .inl (upd fs 0 ((ks_sum f n).1))))] := hD
    refine lv_aload_n hx hb dX1_sum_59 rfl (lv_at hl 1 rfl) ?_
    refine va_get (D := (dC, dI)) (ci := 1) (v := .ref qm) (C := RX1) (T := TX1) (N := 6) hx hb hts (by decide +kernel) hown hK hP 0 rfl rfl 4 (by decide) (hts (.fieldLink RX1 27 "KeySums" "keptSum" "[I") (by decide +kernel)) (fun _ h9 => h9) rfl dX1_sum_60 ?_
    refine lv_iconst (v := 1) hx hb dX1_sum_63 (by decide) ?_
    refine kz_top (y := nI 1) (by decide) ?_
    refine lv_aload_n hx hb dX1_sum_64 rfl (lv_at hl 1 rfl) ?_
    refine va_get (D := (dC, dI)) (ci := 1) (v := .ref qs) (C := RX1) (T := TX1) (N := 6) hx hb hts (by decide +kernel) hown hK hP 0 rfl rfl 3 (by decide) (hts (.fieldLink RX1 23 "KeySums" "summer" "LKeySums$Summer;") (by decide +kernel)) (fun _ h9 => h9) rfl dX1_sum_65 ?_
    refine va_getN (D := (dC, dI)) (ci := 0) (v := .int ((ks_sum f n).2.1)) (C := RX0) (T := TX0) (N := 6) hx hb hts (by decide +kernel) hown hK hP 2 rfl rfl 3 (by decide) (va_Nw.use rfl hN.2.2.1) (fun _ h9 => h9) rfl dX1_sum_68 ?_
    refine kz_iast (j := 1) hx hb hK hP hD hS 4 2 rfl rfl (show 1 < 4 by decide) (by decide) dX1_sum_71 (fun H locs hP hD hS => ?_)
    have hP : va_P (dC, dI) vwCl [(h, .inr (1, [.ref qt, .int tn, .ref qk, .ref qs, .ref qm, .int hs])), (qk, .inl (cK, 16, .inl fk)), (qs, .inr (0, [.ref qw, .int (nI (ks_end n + 8)), .int ((ks_sum f n).1), .int ((ks_sum f n).2.1), .int ((ks_sum f n).2.2.1), .int ((ks_sum f n).2.2.2)])), (qw, .inl (cW, 16, .inl wd3)), (qm, .inl (cM, 4, .inl (upd (upd fs 0 ((ks_sum f n).1)) 1 ((ks_sum f n).2.1))))] H := hP
    have hD : va_D A [(h, .inr (1, [.ref qt, .int tn, .ref qk, .ref qs, .ref qm, .int hs])), (qk, .inl (cK, 16, .inl fk)), (qs, .inr (0, [.ref qw, .int (nI (ks_end n + 8)), .int ((ks_sum f n).1), .int ((ks_sum f n).2.1), .int ((ks_sum f n).2.2.1), .int ((ks_sum f n).2.2.2)])), (qw, .inl (cW, 16, .inl wd3)), (qm, .inl (cM, 4, .inl (upd (upd fs 0 ((ks_sum f n).1)) 1 ((ks_sum f n).2.1))))] := hD
    refine lv_aload_n hx hb dX1_sum_72 rfl (lv_at hl 1 rfl) ?_
    refine va_get (D := (dC, dI)) (ci := 1) (v := .ref qm) (C := RX1) (T := TX1) (N := 6) hx hb hts (by decide +kernel) hown hK hP 0 rfl rfl 4 (by decide) (hts (.fieldLink RX1 27 "KeySums" "keptSum" "[I") (by decide +kernel)) (fun _ h9 => h9) rfl dX1_sum_73 ?_
    refine lv_iconst (v := 2) hx hb dX1_sum_76 (by decide) ?_
    refine kz_top (y := nI 2) (by decide) ?_
    refine lv_aload_n hx hb dX1_sum_77 rfl (lv_at hl 1 rfl) ?_
    refine va_get (D := (dC, dI)) (ci := 1) (v := .ref qs) (C := RX1) (T := TX1) (N := 6) hx hb hts (by decide +kernel) hown hK hP 0 rfl rfl 3 (by decide) (hts (.fieldLink RX1 23 "KeySums" "summer" "LKeySums$Summer;") (by decide +kernel)) (fun _ h9 => h9) rfl dX1_sum_78 ?_
    refine va_getN (D := (dC, dI)) (ci := 0) (v := .int ((ks_sum f n).2.2.1)) (C := RX0) (T := TX0) (N := 6) hx hb hts (by decide +kernel) hown hK hP 2 rfl rfl 4 (by decide) (va_Nw.use rfl hN.2.2.2.1) (fun _ h9 => h9) rfl dX1_sum_81 ?_
    refine kz_iast (j := 2) hx hb hK hP hD hS 4 2 rfl rfl (show 2 < 4 by decide) (by decide) dX1_sum_84 (fun H locs hP hD hS => ?_)
    have hP : va_P (dC, dI) vwCl [(h, .inr (1, [.ref qt, .int tn, .ref qk, .ref qs, .ref qm, .int hs])), (qk, .inl (cK, 16, .inl fk)), (qs, .inr (0, [.ref qw, .int (nI (ks_end n + 8)), .int ((ks_sum f n).1), .int ((ks_sum f n).2.1), .int ((ks_sum f n).2.2.1), .int ((ks_sum f n).2.2.2)])), (qw, .inl (cW, 16, .inl wd3)), (qm, .inl (cM, 4, .inl (upd (upd (upd fs 0 ((ks_sum f n).1)) 1 ((ks_sum f n).2.1)) 2 ((ks_sum f n).2.2.1))))] H := hP
    have hD : va_D A [(h, .inr (1, [.ref qt, .int tn, .ref qk, .ref qs, .ref qm, .int hs])), (qk, .inl (cK, 16, .inl fk)), (qs, .inr (0, [.ref qw, .int (nI (ks_end n + 8)), .int ((ks_sum f n).1), .int ((ks_sum f n).2.1), .int ((ks_sum f n).2.2.1), .int ((ks_sum f n).2.2.2)])), (qw, .inl (cW, 16, .inl wd3)), (qm, .inl (cM, 4, .inl (upd (upd (upd fs 0 ((ks_sum f n).1)) 1 ((ks_sum f n).2.1)) 2 ((ks_sum f n).2.2.1))))] := hD
    refine lv_aload_n hx hb dX1_sum_85 rfl (lv_at hl 1 rfl) ?_
    refine va_get (D := (dC, dI)) (ci := 1) (v := .ref qm) (C := RX1) (T := TX1) (N := 6) hx hb hts (by decide +kernel) hown hK hP 0 rfl rfl 4 (by decide) (hts (.fieldLink RX1 27 "KeySums" "keptSum" "[I") (by decide +kernel)) (fun _ h9 => h9) rfl dX1_sum_86 ?_
    refine lv_iconst (v := 3) hx hb dX1_sum_89 (by decide) ?_
    refine kz_top (y := nI 3) (by decide) ?_
    refine lv_aload_n hx hb dX1_sum_90 rfl (lv_at hl 1 rfl) ?_
    refine va_get (D := (dC, dI)) (ci := 1) (v := .ref qs) (C := RX1) (T := TX1) (N := 6) hx hb hts (by decide +kernel) hown hK hP 0 rfl rfl 3 (by decide) (hts (.fieldLink RX1 23 "KeySums" "summer" "LKeySums$Summer;") (by decide +kernel)) (fun _ h9 => h9) rfl dX1_sum_91 ?_
    refine va_getN (D := (dC, dI)) (ci := 0) (v := .int ((ks_sum f n).2.2.2)) (C := RX0) (T := TX0) (N := 6) hx hb hts (by decide +kernel) hown hK hP 2 rfl rfl 5 (by decide) (va_Nw.use rfl hN.2.2.2.2.1) (fun _ h9 => h9) rfl dX1_sum_94 ?_
    refine kz_iast (j := 3) hx hb hK hP hD hS 4 2 rfl rfl (show 3 < 4 by decide) (by decide) dX1_sum_97 (fun H locs hP hD hS => ?_)
    have hP : va_P (dC, dI) vwCl [(h, .inr (1, [.ref qt, .int tn, .ref qk, .ref qs, .ref qm, .int hs])), (qk, .inl (cK, 16, .inl fk)), (qs, .inr (0, [.ref qw, .int (nI (ks_end n + 8)), .int ((ks_sum f n).1), .int ((ks_sum f n).2.1), .int ((ks_sum f n).2.2.1), .int ((ks_sum f n).2.2.2)])), (qw, .inl (cW, 16, .inl wd3)), (qm, .inl (cM, 4, .inl (upd (upd (upd (upd fs 0 ((ks_sum f n).1)) 1 ((ks_sum f n).2.1)) 2 ((ks_sum f n).2.2.1)) 3 ((ks_sum f n).2.2.2))))] H := hP
    have hD : va_D A [(h, .inr (1, [.ref qt, .int tn, .ref qk, .ref qs, .ref qm, .int hs])), (qk, .inl (cK, 16, .inl fk)), (qs, .inr (0, [.ref qw, .int (nI (ks_end n + 8)), .int ((ks_sum f n).1), .int ((ks_sum f n).2.1), .int ((ks_sum f n).2.2.1), .int ((ks_sum f n).2.2.2)])), (qw, .inl (cW, 16, .inl wd3)), (qm, .inl (cM, 4, .inl (upd (upd (upd (upd fs 0 ((ks_sum f n).1)) 1 ((ks_sum f n).2.1)) 2 ((ks_sum f n).2.2.1)) 3 ((ks_sum f n).2.2.2))))] := hD
    refine lv_aload_n hx hb dX1_sum_98 rfl (lv_at hl 1 rfl) ?_
    refine lv_iconst (v := 1) hx hb dX1_sum_99 (by decide) ?_
    refine va_put (D := (dC, dI)) (ci := 1) (v := .int 1) (ty := .boolean) (C := RX1) (T := TX1) (N := 6) hx hb hts (by decide +kernel) tyX1 tyX1_ok nmX1 hown hK hP hD hS 0 rfl rfl 5 (by decide) (hts (.fieldLink RX1 31 "KeySums" "hasSum" "Z") (by decide +kernel)) (fun _ h9 => h9) rfl (by decide +kernel) rfl rfl (Nat.le_of_ble_eq_true rfl) dX1_sum_100 (fun H locs hP hD hS => ?_)
    have hP : va_P (dC, dI) vwCl [(h, .inr (1, [.ref qt, .int tn, .ref qk, .ref qs, .ref qm, .int 1])), (qk, .inl (cK, 16, .inl fk)), (qs, .inr (0, [.ref qw, .int (nI (ks_end n + 8)), .int ((ks_sum f n).1), .int ((ks_sum f n).2.1), .int ((ks_sum f n).2.2.1), .int ((ks_sum f n).2.2.2)])), (qw, .inl (cW, 16, .inl wd3)), (qm, .inl (cM, 4, .inl (upd (upd (upd (upd fs 0 ((ks_sum f n).1)) 1 ((ks_sum f n).2.1)) 2 ((ks_sum f n).2.2.1)) 3 ((ks_sum f n).2.2.2))))] H := hP
    have hD : va_D A [(h, .inr (1, [.ref qt, .int tn, .ref qk, .ref qs, .ref qm, .int 1])), (qk, .inl (cK, 16, .inl fk)), (qs, .inr (0, [.ref qw, .int (nI (ks_end n + 8)), .int ((ks_sum f n).1), .int ((ks_sum f n).2.1), .int ((ks_sum f n).2.2.1), .int ((ks_sum f n).2.2.2)])), (qw, .inl (cW, 16, .inl wd3)), (qm, .inl (cM, 4, .inl (upd (upd (upd (upd fs 0 ((ks_sum f n).1)) 1 ((ks_sum f n).2.1)) 2 ((ks_sum f n).2.2.1)) 3 ((ks_sum f n).2.2.2))))] := hD
    refine lv_aload_n hx hb dX1_sum_103 rfl (lv_at hl 1 rfl) ?_
    refine va_get (D := (dC, dI)) (ci := 1) (v := .ref qs) (C := RX1) (T := TX1) (N := 6) hx hb hts (by decide +kernel) hown hK hP 0 rfl rfl 3 (by decide) (hts (.fieldLink RX1 23 "KeySums" "summer" "LKeySums$Summer;") (by decide +kernel)) (fun _ h9 => h9) rfl dX1_sum_104 ?_
    have hPc := hP.sub (ws' := [(qs, .inr (0, [.ref qw, .int (nI (ks_end n + 8)), .int ((ks_sum f n).1), .int ((ks_sum f n).2.1), .int ((ks_sum f n).2.2.1), .int ((ks_sum f n).2.2.2)]))]) [2] rfl
    have hDc := hD.sub (ws' := [(qs, .inr (0, [.ref qw, .int (nI (ks_end n + 8)), .int ((ks_sum f n).1), .int ((ks_sum f n).2.1), .int ((ks_sum f n).2.2.1), .int ((ks_sum f n).2.2.2)]))]) [2] (by decide) rfl
    have hKc := hK.sub (tys' := []) [] rfl
    have hFc := va_free (wc := [(qs, .inr (0, [.ref qw, .int (nI (ks_end n + 8)), .int ((ks_sum f n).1), .int ((ks_sum f n).2.1), .int ((ks_sum f n).2.2.1), .int ((ks_sum f n).2.2.2)]))]) hD hS hA [2] rfl
    refine va_callv (va_runVN (As := []) (rest := []) ⟨hx, hb, hml, hown, hts⟩ (c_restart l dC dI H.size qs qw (nI (ks_end n + 8)) (ks_sum f n)) ⟨va_cnB 0 hts gX1_sum_X0_restart_n61 rfl rfl rfl hN.2.2.2.2.2.2.2.2 (hts (.initialized RX0) (by decide +kernel)) (by decide +kernel) ⟨Nat.le_of_ble_eq_true rfl, Nat.le_of_ble_eq_true rfl⟩, hts (.instanceMethod yX0_restart) (by decide +kernel), hts (.selects RX0 yX0_restart yX0_restart) (by decide +kernel)⟩ ⟨fun a U g mk q => by obtain ⟨q0, q1, qP, qK, qD⟩ := q; exact ⟨q0, q1, qP, va_K.moved (u := U) (U := U.calling g mk a) (Vm.Alike.refl U.vm) qK, qD⟩, va_recv hKc hPc (ci := 0) (q0 := 0) rfl rfl, fun U hU hW => ⟨rfl, by rw [hU], by rw [hU]; exact hPc, va_K.moved hW.alike hKc, hDc.weaken (fun _ _ _ _ => trivial)⟩⟩ rfl rfl hl.1 rfl (lv_room (Nat.le_of_ble_eq_true rfl)) dX1_sum_107 ⟨Nat.zero_le _, Nat.zero_le _⟩) hS (fun q _ h => hFc q h) hFc (fun u t H1 locs ht hvm hw hB hz1 hk1 hS => ?_)
    obtain ⟨hP1, hK1, hD1⟩ := hB
    rw [ht] at hP1
    have hK1 := va_K.moved hvm.symm hK1
    try dsimp only at hw
    obtain ⟨hP, hD⟩ := va_join (wr := [(h, .inr (1, [.ref qt, .int tn, .ref qk, .ref qs, .ref qm, .int 1])), (qk, .inl (cK, 16, .inl fk)), (qw, .inl (cW, 16, .inl wd3)), (qm, .inl (cM, 4, .inl (upd (upd (upd (upd fs 0 ((ks_sum f n).1)) 1 ((ks_sum f n).2.1)) 2 ((ks_sum f n).2.2.1)) 3 ((ks_sum f n).2.2.2))))]) (w1 := [(qs, .inr (0, [.ref qw, .int (nI 0), .int 1732584193, .int (-271733879), .int (-1732584194), .int 271733878]))]) hP hD [2] [0, 1, 3, 4] rfl rfl (by decide) (by decide) hk1 hFc hP1 hD1
    have hP := hP.sub (ws' := [(h, .inr (1, [.ref qt, .int tn, .ref qk, .ref qs, .ref qm, .int 1])), (qk, .inl (cK, 16, .inl fk)), (qs, .inr (0, [.ref qw, .int (nI 0), .int 1732584193, .int (-271733879), .int (-1732584194), .int 271733878])), (qw, .inl (cW, 16, .inl wd3)), (qm, .inl (cM, 4, .inl (upd (upd (upd (upd fs 0 ((ks_sum f n).1)) 1 ((ks_sum f n).2.1)) 2 ((ks_sum f n).2.2.1)) 3 ((ks_sum f n).2.2.2))))]) [0, 1, 4, 2, 3] rfl
    have hD := hD.sub (ws' := [(h, .inr (1, [.ref qt, .int tn, .ref qk, .ref qs, .ref qm, .int 1])), (qk, .inl (cK, 16, .inl fk)), (qs, .inr (0, [.ref qw, .int (nI 0), .int 1732584193, .int (-271733879), .int (-1732584194), .int 271733878])), (qw, .inl (cW, 16, .inl wd3)), (qm, .inl (cM, 4, .inl (upd (upd (upd (upd fs 0 ((ks_sum f n).1)) 1 ((ks_sum f n).2.1)) 2 ((ks_sum f n).2.2.1)) 3 ((ks_sum f n).2.2.2))))]) [0, 1, 4, 2, 3] (by decide) rfl
    generalize H1 = H at hP hS ⊢
    have hP : va_P (dC, dI) vwCl [(h, .inr (1, [.ref qt, .int tn, .ref qk, .ref qs, .ref qm, .int 1])), (qk, .inl (cK, 16, .inl fk)), (qs, .inr (0, [.ref qw, .int (nI 0), .int 1732584193, .int (-271733879), .int (-1732584194), .int 271733878])), (qw, .inl (cW, 16, .inl wd3)), (qm, .inl (cM, 4, .inl (upd (upd (upd (upd fs 0 ((ks_sum f n).1)) 1 ((ks_sum f n).2.1)) 2 ((ks_sum f n).2.2.1)) 3 ((ks_sum f n).2.2.2))))] H := hP
    have hD : va_D A [(h, .inr (1, [.ref qt, .int tn, .ref qk, .ref qs, .ref qm, .int 1])), (qk, .inl (cK, 16, .inl fk)), (qs, .inr (0, [.ref qw, .int (nI 0), .int 1732584193, .int (-271733879), .int (-1732584194), .int 271733878])), (qw, .inl (cW, 16, .inl wd3)), (qm, .inl (cM, 4, .inl (upd (upd (upd (upd fs 0 ((ks_sum f n).1)) 1 ((ks_sum f n).2.1)) 2 ((ks_sum f n).2.2.1)) 3 ((ks_sum f n).2.2.2))))] := hD
    refine lv_iload_n hx hb dX1_sum_110 rfl (lv_at hl 0 rfl) ?_
    have hP9 := hP.sub (ws' := [(h, .inr (1, [.ref qt, .int tn, .ref qk, .ref qs, .ref qm, .int 1])), (qk, .inl (cK, 16, .inl fk)), (qs, .inr (0, [.ref qw, .int (nI 0), .int 1732584193, .int (-271733879), .int (-1732584194), .int 271733878])), (qw, .inl (cW, 16, .inl wd3)), (qm, .inl (cM, 4, .inl (upd (upd (upd (upd fs 0 ((ks_sum f n).1)) 1 ((ks_sum f n).2.1)) 2 ((ks_sum f n).2.2.1)) 3 ((ks_sum f n).2.2.2))))]) [0, 1, 2, 3, 4] rfl
    have hD9 := hD.sub (ws' := [(h, .inr (1, [.ref qt, .int tn, .ref qk, .ref qs, .ref qm, .int 1])), (qk, .inl (cK, 16, .inl fk)), (qs, .inr (0, [.ref qw, .int (nI 0), .int 1732584193, .int (-271733879), .int (-1732584194), .int 271733878])), (qw, .inl (cW, 16, .inl wd3)), (qm, .inl (cM, 4, .inl (upd (upd (upd (upd fs 0 ((ks_sum f n).1)) 1 ((ks_sum f n).2.1)) 2 ((ks_sum f n).2.2.1)) 3 ((ks_sum f n).2.2.2))))]) [0, 1, 2, 3, 4] (by decide) rfl
    have hK9 := hK.sub (tys' := [(cK, .byte), (cW, .int), (cM, .int)]) [0, 1, 2] rfl
    exact W.iret (v := (nI n)) hx hb hr (fun t ht hW => ⟨⟨(nI n), wd3, rfl, rfl, by rw [ht]; exact hP9, va_K.moved hW.alike hK9, hD9⟩, hS.F ht⟩) hS.2.2 dX1_sum_111
  · skip
    exact absurd hz hc

set_option maxHeartbeats 4000000 in
set_option maxRecDepth 100000 in
/-- sum -/
theorem c_sum_k (l : Launch) (dC : Nat → ClassId) (dI : Nat → Nat → Nat) (sz : Nat) (tS tT h qt qk qs qw qm : Nat) (cK cW cM : ClassId) (tn hs : Int32) (n : Nat) (v : ks_Q) (fk wd fs f : Nat → Int32) (y : Int32) (h2 : n + 16 < 2 ^ 28) (hi : ks_inv f n wd v) (hz : ¬ y = 0) (hf : ∀ j, j < 16 → f (n + j) &&& 255 = fk j &&& 255) : Met l yX1_sum wsX1_sum ({ frames := 4, cells := 0, slots := 0, locals := 160 }) (va_Pc [.ref h, .int y] (fun U => U.heap.size = sz ∧ va_P (dC, dI) vwCl [(h, .inr (1, [.ref qt, .int tn, .ref qk, .ref qs, .ref qm, .int hs])), (qk, .inl (cK, 16, .inl fk)), (qs, .inr (0, [.ref qw, .int (nI n), .int v.1, .int v.2.1, .int v.2.2.1, .int v.2.2.2])), (qw, .inl (cW, 16, .inl wd)), (qm, .inl (cM, 4, .inl fs))] U.heap ∧ va_K (dC, dI) vwCl [(cK, .byte), (cW, .int), (cM, .int)] U ∧ va_D (fun _ => True) [(h, .inr (1, [.ref qt, .int tn, .ref qk, .ref qs, .ref qm, .int hs])), (qk, .inl (cK, 16, .inl fk)), (qs, .inr (0, [.ref qw, .int (nI n), .int v.1, .int v.2.1, .int v.2.2.1, .int v.2.2.2])), (qw, .inl (cW, 16, .inl wd)), (qm, .inl (cM, 4, .inl fs))] ∧ ks_tab tS tT (va_A [(h, .inr (1, [.ref qt, .int tn, .ref qk, .ref qs, .ref qm, .int hs])), (qk, .inl (cK, 16, .inl fk)), (qs, .inr (0, [.ref qw, .int (nI n), .int v.1, .int v.2.1, .int v.2.2.1, .int v.2.2.2])), (qw, .inl (cW, 16, .inl wd)), (qm, .inl (cM, 4, .inl fs))] sz) U U.heap ∧ ks_nw U)) (va_Qi (fun (r : Int32) (u : Nat → Int32) => r = nI n) (fun (u : Nat → Int32) t => kz_B dC dI [(cK, .byte), (cW, .int), (cM, .int)] (va_A [(h, .inr (1, [.ref qt, .int tn, .ref qk, .ref qs, .ref qm, .int hs])), (qk, .inl (cK, 16, .inl fk)), (qs, .inr (0, [.ref qw, .int (nI n), .int v.1, .int v.2.1, .int v.2.2.1, .int v.2.2.2])), (qw, .inl (cW, 16, .inl wd)), (qm, .inl (cM, 4, .inl fs))] sz) [(h, .inr (1, [.ref qt, .int tn, .ref qk, .ref qs, .ref qm, .int 1])), (qk, .inl (cK, 16, .inl fk)), (qs, .inr (0, [.ref qw, .int (nI 0), .int 1732584193, .int (-271733879), .int (-1732584194), .int 271733878])), (qw, .inl (cW, 16, .inl u)), (qm, .inl (cM, 4, .inl (upd (upd (upd (upd fs 0 (ks_sum f (n + 16)).1) 1 (ks_sum f (n + 16)).2.1) 2 (ks_sum f (n + 16)).2.2.1) 3 (ks_sum f (n + 16)).2.2.2)))] t) (va_A [(h, .inr (1, [.ref qt, .int tn, .ref qk, .ref qs, .ref qm, .int hs])), (qk, .inl (cK, 16, .inl fk)), (qs, .inr (0, [.ref qw, .int (nI n), .int v.1, .int v.2.1, .int v.2.2.1, .int v.2.2.2])), (qw, .inl (cW, 16, .inl wd)), (qm, .inl (cM, 4, .inl fs))] sz)) 0 0 (va_A [(h, .inr (1, [.ref qt, .int tn, .ref qk, .ref qs, .ref qm, .int hs])), (qk, .inl (cK, 16, .inl fk)), (qs, .inr (0, [.ref qw, .int (nI n), .int v.1, .int v.2.1, .int v.2.2.1, .int v.2.2.2])), (qw, .inl (cW, 16, .inl wd)), (qm, .inl (cM, 4, .inl fs))] sz) := by
  refine Met.ofW (cc := cX1_sum) (maxL := 4) (ret := (some .int)) (by decide) rfl ?_
  intro p e s m args below meth c s₁ B hml hv
  obtain ⟨rfl, hsz, hP, hK, hD0, hT, hN⟩ := hv
  have hx := B.exec
  have hb := B.bytes
  have hr := B.returns
  have hts := atoms_spec (ws := wsX1_sum) B.pre
  have hown : s.vm.findClass RX1 = some m.cls := findClass_of_methodNamed B.named
  have hlocks := B.notSynchronized
  subst hsz
  have hD := hD0.self (sz := s.heap.size)
  generalize hAe : va_A [(h, .inr (1, [.ref qt, .int tn, .ref qk, .ref qs, .ref qm, .int hs])), (qk, .inl (cK, 16, .inl fk)), (qs, .inr (0, [.ref qw, .int (nI n), .int v.1, .int v.2.1, .int v.2.2.1, .int v.2.2.2])), (qw, .inl (cW, 16, .inl wd)), (qm, .inl (cM, 4, .inl fs))] s.heap.size = A at hD hT ⊢
  have hA : ∀ q : Nat, s.heap.size ≤ q → A q := fun q h => by rw [← hAe]; exact Or.inr h
  have hS : va_S A s.heap s.heap [] := va_S.rf
  have hP : va_P (dC, dI) vwCl [(h, .inr (1, [.ref qt, .int tn, .ref qk, .ref qs, .ref qm, .int hs])), (qk, .inl (cK, 16, .inl fk)), (qs, .inr (0, [.ref qw, .int (nI n), .int v.1, .int v.2.1, .int v.2.2.1, .int v.2.2.2])), (qw, .inl (cW, 16, .inl wd)), (qm, .inl (cM, 4, .inl fs))] s.heap := hP
  have hl := lv_entry ([.ref h, .int y]) (n := 4) (Nat.le_of_ble_eq_true rfl)
  rw [lg_entry_eq]
  generalize (lg_sl ([.ref h, .int y]) ++ List.replicate (4 - (lg_sl ([.ref h, .int y])).length) Slot.unset).toArray = ls at hl ⊢
  have hl : lv_has ls 4 [(0, .ref h), (1, .int y)] := hl
  refine lv_aload_n hx hb dX1_sum_0 rfl (lv_at hl 0 rfl) ?_
  refine va_get (D := (dC, dI)) (ci := 1) (v := .ref qs) (C := RX1) (T := TX1) (N := 6) hx hb hts (by decide +kernel) hown hK hP 0 rfl rfl 3 (by decide) (hts (.fieldLink RX1 23 "KeySums" "summer" "LKeySums$Summer;") (by decide +kernel)) (fun _ h9 => h9) rfl dX1_sum_1 ?_
  refine va_getN (D := (dC, dI)) (ci := 0) (v := .int (nI n)) (C := RX0) (T := TX0) (N := 6) hx hb hts (by decide +kernel) hown hK hP 2 rfl rfl 1 (by decide) (va_Nw.use rfl hN.1) (fun _ h9 => h9) rfl dX1_sum_4 ?_
  refine lv_istore_n (lv' := [(2, .int (nI n)), (0, .ref h), (1, .int y)]) hx hb dX1_sum_7 rfl hl (by decide) rfl (fun ls hl => ?_)
  refine lv_iload_n hx hb dX1_sum_8 rfl (lv_at hl 2 rfl) ?_
  refine lv_if_eq (tgt := 39) hx hb dX1_sum_9 (by decide) (fun hc => ?_) (fun hc => ?_)
  · skip
    exact absurd hc hz
  · skip
    refine lv_iconst (v := 0) hx hb dX1_sum_12 (by decide) ?_
    refine kz_top (y := nI 0) nI_0.symm ?_
    refine lv_istore_n (lv' := [(3, .int (nI 0)), (2, .int (nI n)), (0, .ref h), (1, .int y)]) hx hb dX1_sum_13 rfl hl (by decide) rfl (fun ls hl => ?_)
    refine kz_loop (σ := (Nat → Int32) × ks_Q) (fun i x1 ls H locs => ks_inv f (n + i) x1.1 x1.2 ∧ lv_has ls 4 [(3, .int (nI i)), (2, .int (nI n)), (0, .ref h)] ∧ va_P (dC, dI) vwCl [(h, .inr (1, [.ref qt, .int tn, .ref qk, .ref qs, .ref qm, .int hs])), (qk, .inl (cK, 16, .inl fk)), (qs, .inr (0, [.ref qw, .int (nI (n + i)), .int x1.2.1, .int x1.2.2.1, .int x1.2.2.2.1, .int x1.2.2.2.2])), (qw, .inl (cW, 16, .inl x1.1)), (qm, .inl (cM, 4, .inl fs))] H ∧ va_D A [(h, .inr (1, [.ref qt, .int tn, .ref qk, .ref qs, .ref qm, .int hs])), (qk, .inl (cK, 16, .inl fk)), (qs, .inr (0, [.ref qw, .int (nI (n + i)), .int x1.2.1, .int x1.2.2.1, .int x1.2.2.2.1, .int x1.2.2.2.2])), (qw, .inl (cW, 16, .inl x1.1)), (qm, .inl (cM, 4, .inl fs))] ∧ va_S A s.heap H locs) 16 ?_ ?_ 0 (wd, v) ls _ _ (Nat.zero_le _) ⟨hi, lv_sub hl [0, 1, 2] rfl, hP, hD, hS⟩
    · skip
      intro i x1 ls H locs hlt hI ih
      obtain ⟨hv, hl, hP, hD, hS⟩ := hI
      refine lv_iload_n hx hb dX1_sum_14 rfl (lv_at hl 0 rfl) ?_
      refine lv_bipush (v := 16) hx hb dX1_sum_15 (by decide) ?_
      refine lv_icmp_ge (tgt := 39) hx hb dX1_sum_17 (by decide) (fun hc => ?_) (fun hc => ?_)
      · skip
        exact absurd hc (nI_ge (a := i) (b := 16) hlt (by decide))
      · skip
        refine lv_aload_n hx hb dX1_sum_20 rfl (lv_at hl 2 rfl) ?_
        refine va_get (D := (dC, dI)) (ci := 1) (v := .ref qs) (C := RX1) (T := TX1) (N := 6) hx hb hts (by decide +kernel) hown hK hP 0 rfl rfl 3 (by decide) (hts (.fieldLink RX1 23 "KeySums" "summer" "LKeySums$Summer;") (by decide +kernel)) (fun _ h9 => h9) rfl dX1_sum_21 ?_
        refine lv_aload_n hx hb dX1_sum_24 rfl (lv_at hl 2 rfl) ?_
        refine va_get (D := (dC, dI)) (ci := 1) (v := .ref qk) (C := RX1) (T := TX1) (N := 6) hx hb hts (by decide +kernel) hown hK hP 0 rfl rfl 2 (by decide) (hts (.fieldLink RX1 17 "KeySums" "keyBytes" "[B") (by decide +kernel)) (fun _ h9 => h9) rfl dX1_sum_25 ?_
        refine lv_iload_n hx hb dX1_sum_28 rfl (lv_at hl 0 rfl) ?_
        refine kz_bald (j := i) hx hb hK hP 1 0 rfl rfl (hlt) (by decide) dX1_sum_29 ?_
        have hPc := hP.sub (ws' := [(qs, .inr (0, [.ref qw, .int (nI (n + i)), .int x1.2.1, .int x1.2.2.1, .int x1.2.2.2.1, .int x1.2.2.2.2])), (qw, .inl (cW, 16, .inl x1.1))]) [2, 3] rfl
        have hDc := hD.sub (ws' := [(qs, .inr (0, [.ref qw, .int (nI (n + i)), .int x1.2.1, .int x1.2.2.1, .int x1.2.2.2.1, .int x1.2.2.2.2])), (qw, .inl (cW, 16, .inl x1.1))]) [2, 3] (by decide) rfl
        have hKc := hK.sub (tys' := [(cW, .int)]) [1] rfl
        have hFc := va_free (wc := [(qs, .inr (0, [.ref qw, .int (nI (n + i)), .int x1.2.1, .int x1.2.2.1, .int x1.2.2.2.1, .int x1.2.2.2.2])), (qw, .inl (cW, 16, .inl x1.1))]) hD hS hA [2, 3] rfl
        refine va_callv (va_runVN (As := [.int (fk i)]) (rest := []) ⟨hx, hb, hml, hown, hts⟩ (c_take l dC dI H.size tS tT qs qw cW (n + i) x1.2 x1.1 f (fk i) (by omega) hv (hf i hlt)) ⟨va_cnB 1 hts gX1_sum_X0_take_n39 rfl rfl rfl hN.2.2.2.2.2.2.1 (hts (.initialized RX0) (by decide +kernel)) (by decide +kernel) ⟨Nat.le_of_ble_eq_true rfl, Nat.le_of_ble_eq_true rfl⟩, hts (.instanceMethod yX0_take) (by decide +kernel), hts (.selects RX0 yX0_take yX0_take) (by decide +kernel)⟩ ⟨fun a U g mk q => by obtain ⟨q0, q1, qP, qK, qD, qx0⟩ := q; exact ⟨q0, q1, qP, va_K.moved (u := U) (U := U.calling g mk a) (Vm.Alike.refl U.vm) qK, qD, ks_tab.moved (u := U) (U := U.calling g mk a) (Vm.Alike.refl U.vm) qx0⟩, va_recv hKc hPc (ci := 0) (q0 := 0) rfl rfl, fun U hU hW => ⟨rfl, by rw [hU], by rw [hU]; exact hPc, va_K.moved hW.alike hKc, hDc.weaken (fun _ _ _ _ => trivial), hT.call hS hFc hU hW.alike⟩⟩ rfl rfl hl.1 rfl (lv_room (Nat.le_of_ble_eq_true rfl)) dX1_sum_30 ⟨Nat.zero_le _, Nat.zero_le _⟩) hS (fun q _ h => hFc q h) hFc (fun u t H1 locs ht hvm hw hB hz1 hk1 hS => ?_)
        obtain ⟨wd2, v2⟩ := u
        obtain ⟨hP1, hK1, hD1⟩ := hB
        rw [ht] at hP1
        have hK1 := va_K.moved hvm.symm hK1
        try dsimp only at hw
        obtain ⟨hP, hD⟩ := va_join (wr := [(h, .inr (1, [.ref qt, .int tn, .ref qk, .ref qs, .ref qm, .int hs])), (qk, .inl (cK, 16, .inl fk)), (qm, .inl (cM, 4, .inl fs))]) (w1 := [(qs, .inr (0, [.ref qw, .int (nI (n + i + 1)), .int v2.1, .int v2.2.1, .int v2.2.2.1, .int v2.2.2.2])), (qw, .inl (cW, 16, .inl wd2))]) hP hD [2, 3] [0, 1, 4] rfl rfl (by decide) (by decide) hk1 hFc hP1 hD1
        have hP := hP.sub (ws' := [(h, .inr (1, [.ref qt, .int tn, .ref qk, .ref qs, .ref qm, .int hs])), (qk, .inl (cK, 16, .inl fk)), (qs, .inr (0, [.ref qw, .int (nI (n + i + 1)), .int v2.1, .int v2.2.1, .int v2.2.2.1, .int v2.2.2.2])), (qw, .inl (cW, 16, .inl wd2)), (qm, .inl (cM, 4, .inl fs))]) [0, 1, 3, 4, 2] rfl
        have hD := hD.sub (ws' := [(h, .inr (1, [.ref qt, .int tn, .ref qk, .ref qs, .ref qm, .int hs])), (qk, .inl (cK, 16, .inl fk)), (qs, .inr (0, [.ref qw, .int (nI (n + i + 1)), .int v2.1, .int v2.2.1, .int v2.2.2.1, .int v2.2.2.2])), (qw, .inl (cW, 16, .inl wd2)), (qm, .inl (cM, 4, .inl fs))]) [0, 1, 3, 4, 2] (by decide) rfl
        generalize H1 = H at hP hS ⊢
        have hP : va_P (dC, dI) vwCl [(h, .inr (1, [.ref qt, .int tn, .ref qk, .ref qs, .ref qm, .int hs])), (qk, .inl (cK, 16, .inl fk)), (qs, .inr (0, [.ref qw, .int (nI (n + i + 1)), .int v2.1, .int v2.2.1, .int v2.2.2.1, .int v2.2.2.2])), (qw, .inl (cW, 16, .inl wd2)), (qm, .inl (cM, 4, .inl fs))] H := hP
        have hD : va_D A [(h, .inr (1, [.ref qt, .int tn, .ref qk, .ref qs, .ref qm, .int hs])), (qk, .inl (cK, 16, .inl fk)), (qs, .inr (0, [.ref qw, .int (nI (n + i + 1)), .int v2.1, .int v2.2.1, .int v2.2.2.1, .int v2.2.2.2])), (qw, .inl (cW, 16, .inl wd2)), (qm, .inl (cM, 4, .inl fs))] := hD
        refine lv_iinc (v := nI (i + 1)) (lv' := [(3, .int (nI (i + 1))), (2, .int (nI n)), (0, .ref h)]) hx hb dX1_sum_33 hl (k := 0) rfl (nI_1 i) (by decide) rfl (fun ls hl => ?_)
        refine lv_goto (tgt := 14) hx hb dX1_sum_36 (by decide) ?_
        exact ih (wd2, v2) ls H locs ⟨hw, lv_sub hl [0, 1, 2] rfl, hP, hD, hS⟩
    · skip
      intro x1 ls H locs hI
      obtain ⟨hv, hl, hP, hD, hS⟩ := hI
      refine lv_iload_n hx hb dX1_sum_14 rfl (lv_at hl 0 rfl) ?_
      refine lv_bipush (v := 16) hx hb dX1_sum_15 (by decide) ?_
      refine lv_icmp_ge (tgt := 39) hx hb dX1_sum_17 (by decide) (fun hc => ?_) (fun hc => ?_)
      · skip
        refine lv_aload_n hx hb dX1_sum_39 rfl (lv_at hl 2 rfl) ?_
        refine va_get (D := (dC, dI)) (ci := 1) (v := .ref qs) (C := RX1) (T := TX1) (N := 6) hx hb hts (by decide +kernel) hown hK hP 0 rfl rfl 3 (by decide) (hts (.fieldLink RX1 23 "KeySums" "summer" "LKeySums$Summer;") (by decide +kernel)) (fun _ h9 => h9) rfl dX1_sum_40 ?_
        have hPc := hP.sub (ws' := [(qs, .inr (0, [.ref qw, .int (nI (n + 16)), .int x1.2.1, .int x1.2.2.1, .int x1.2.2.2.1, .int x1.2.2.2.2])), (qw, .inl (cW, 16, .inl x1.1))]) [2, 3] rfl
        have hDc := hD.sub (ws' := [(qs, .inr (0, [.ref qw, .int (nI (n + 16)), .int x1.2.1, .int x1.2.2.1, .int x1.2.2.2.1, .int x1.2.2.2.2])), (qw, .inl (cW, 16, .inl x1.1))]) [2, 3] (by decide) rfl
        have hKc := hK.sub (tys' := [(cW, .int)]) [1] rfl
        have hFc := va_free (wc := [(qs, .inr (0, [.ref qw, .int (nI (n + 16)), .int x1.2.1, .int x1.2.2.1, .int x1.2.2.2.1, .int x1.2.2.2.2])), (qw, .inl (cW, 16, .inl x1.1))]) hD hS hA [2, 3] rfl
        refine va_callv (va_runVN (As := []) (rest := []) ⟨hx, hb, hml, hown, hts⟩ (c_close l dC dI H.size tS tT qs qw cW (n + 16) x1.2 x1.1 f (by omega) hv) ⟨va_cnB 0 hts gX1_sum_X0_close_n46 rfl rfl rfl hN.2.2.2.2.2.2.2.1 (hts (.initialized RX0) (by decide +kernel)) (by decide +kernel) ⟨Nat.le_of_ble_eq_true rfl, Nat.le_of_ble_eq_true rfl⟩, hts (.instanceMethod yX0_close) (by decide +kernel), hts (.selects RX0 yX0_close yX0_close) (by decide +kernel)⟩ ⟨fun a U g mk q => by obtain ⟨q0, q1, qP, qK, qD, qx0⟩ := q; exact ⟨q0, q1, qP, va_K.moved (u := U) (U := U.calling g mk a) (Vm.Alike.refl U.vm) qK, qD, ks_tab.moved (u := U) (U := U.calling g mk a) (Vm.Alike.refl U.vm) qx0⟩, va_recv hKc hPc (ci := 0) (q0 := 0) rfl rfl, fun U hU hW => ⟨rfl, by rw [hU], by rw [hU]; exact hPc, va_K.moved hW.alike hKc, hDc.weaken (fun _ _ _ _ => trivial), hT.call hS hFc hU hW.alike⟩⟩ rfl rfl hl.1 rfl (lv_room (Nat.le_of_ble_eq_true rfl)) dX1_sum_43 ⟨Nat.zero_le _, Nat.zero_le _⟩) hS (fun q _ h => hFc q h) hFc (fun u t H1 locs ht hvm hw hB hz1 hk1 hS => ?_)
        obtain ⟨wd3, v2⟩ := u
        obtain ⟨hP1, hK1, hD1⟩ := hB
        rw [ht] at hP1
        have hK1 := va_K.moved hvm.symm hK1
        try dsimp only at hw
        obtain ⟨hP, hD⟩ := va_join (wr := [(h, .inr (1, [.ref qt, .int tn, .ref qk, .ref qs, .ref qm, .int hs])), (qk, .inl (cK, 16, .inl fk)), (qm, .inl (cM, 4, .inl fs))]) (w1 := [(qs, .inr (0, [.ref qw, .int (nI (ks_end (n + 16) + 8)), .int v2.1, .int v2.2.1, .int v2.2.2.1, .int v2.2.2.2])), (qw, .inl (cW, 16, .inl wd3))]) hP hD [2, 3] [0, 1, 4] rfl rfl (by decide) (by decide) hk1 hFc hP1 hD1
        have hP := hP.sub (ws' := [(h, .inr (1, [.ref qt, .int tn, .ref qk, .ref qs, .ref qm, .int hs])), (qk, .inl (cK, 16, .inl fk)), (qs, .inr (0, [.ref qw, .int (nI (ks_end (n + 16) + 8)), .int v2.1, .int v2.2.1, .int v2.2.2.1, .int v2.2.2.2])), (qw, .inl (cW, 16, .inl wd3)), (qm, .inl (cM, 4, .inl fs))]) [0, 1, 3, 4, 2] rfl
        have hD := hD.sub (ws' := [(h, .inr (1, [.ref qt, .int tn, .ref qk, .ref qs, .ref qm, .int hs])), (qk, .inl (cK, 16, .inl fk)), (qs, .inr (0, [.ref qw, .int (nI (ks_end (n + 16) + 8)), .int v2.1, .int v2.2.1, .int v2.2.2.1, .int v2.2.2.2])), (qw, .inl (cW, 16, .inl wd3)), (qm, .inl (cM, 4, .inl fs))]) [0, 1, 3, 4, 2] (by decide) rfl
        generalize H1 = H at hP hS ⊢
        have hP : va_P (dC, dI) vwCl [(h, .inr (1, [.ref qt, .int tn, .ref qk, .ref qs, .ref qm, .int hs])), (qk, .inl (cK, 16, .inl fk)), (qs, .inr (0, [.ref qw, .int (nI (ks_end (n + 16) + 8)), .int v2.1, .int v2.2.1, .int v2.2.2.1, .int v2.2.2.2])), (qw, .inl (cW, 16, .inl wd3)), (qm, .inl (cM, 4, .inl fs))] H := hP
        have hD : va_D A [(h, .inr (1, [.ref qt, .int tn, .ref qk, .ref qs, .ref qm, .int hs])), (qk, .inl (cK, 16, .inl fk)), (qs, .inr (0, [.ref qw, .int (nI (ks_end (n + 16) + 8)), .int v2.1, .int v2.2.1, .int v2.2.2.1, .int v2.2.2.2])), (qw, .inl (cW, 16, .inl wd3)), (qm, .inl (cM, 4, .inl fs))] := hD
        subst hw
        have hP : va_P (dC, dI) vwCl [(h, .inr (1, [.ref qt, .int tn, .ref qk, .ref qs, .ref qm, .int hs])), (qk, .inl (cK, 16, .inl fk)), (qs, .inr (0, [.ref qw, .int (nI (ks_end (n + 16) + 8)), .int ((ks_sum f (n + 16)).1), .int ((ks_sum f (n + 16)).2.1), .int ((ks_sum f (n + 16)).2.2.1), .int ((ks_sum f (n + 16)).2.2.2)])), (qw, .inl (cW, 16, .inl wd3)), (qm, .inl (cM, 4, .inl fs))] H := hP
        have hD : va_D A [(h, .inr (1, [.ref qt, .int tn, .ref qk, .ref qs, .ref qm, .int hs])), (qk, .inl (cK, 16, .inl fk)), (qs, .inr (0, [.ref qw, .int (nI (ks_end (n + 16) + 8)), .int ((ks_sum f (n + 16)).1), .int ((ks_sum f (n + 16)).2.1), .int ((ks_sum f (n + 16)).2.2.1), .int ((ks_sum f (n + 16)).2.2.2)])), (qw, .inl (cW, 16, .inl wd3)), (qm, .inl (cM, 4, .inl fs))] := hD
        refine lv_aload_n hx hb dX1_sum_46 rfl (lv_at hl 2 rfl) ?_
        refine va_get (D := (dC, dI)) (ci := 1) (v := .ref qm) (C := RX1) (T := TX1) (N := 6) hx hb hts (by decide +kernel) hown hK hP 0 rfl rfl 4 (by decide) (hts (.fieldLink RX1 27 "KeySums" "keptSum" "[I") (by decide +kernel)) (fun _ h9 => h9) rfl dX1_sum_47 ?_
        refine lv_iconst (v := 0) hx hb dX1_sum_50 (by decide) ?_
        refine kz_top (y := nI 0) (by decide) ?_
        refine lv_aload_n hx hb dX1_sum_51 rfl (lv_at hl 2 rfl) ?_
        refine va_get (D := (dC, dI)) (ci := 1) (v := .ref qs) (C := RX1) (T := TX1) (N := 6) hx hb hts (by decide +kernel) hown hK hP 0 rfl rfl 3 (by decide) (hts (.fieldLink RX1 23 "KeySums" "summer" "LKeySums$Summer;") (by decide +kernel)) (fun _ h9 => h9) rfl dX1_sum_52 ?_
        refine va_getN (D := (dC, dI)) (ci := 0) (v := .int ((ks_sum f (n + 16)).1)) (C := RX0) (T := TX0) (N := 6) hx hb hts (by decide +kernel) hown hK hP 2 rfl rfl 2 (by decide) (va_Nw.use rfl hN.2.1) (fun _ h9 => h9) rfl dX1_sum_55 ?_
        refine kz_iast (j := 0) hx hb hK hP hD hS 4 2 rfl rfl (show 0 < 4 by decide) (by decide) dX1_sum_58 (fun H locs hP hD hS => ?_)
        have hP : va_P (dC, dI) vwCl [(h, .inr (1, [.ref qt, .int tn, .ref qk, .ref qs, .ref qm, .int hs])), (qk, .inl (cK, 16, .inl fk)), (qs, .inr (0, [.ref qw, .int (nI (ks_end (n + 16) + 8)), .int ((ks_sum f (n + 16)).1), .int ((ks_sum f (n + 16)).2.1), .int ((ks_sum f (n + 16)).2.2.1), .int ((ks_sum f (n + 16)).2.2.2)])), (qw, .inl (cW, 16, .inl wd3)), (qm, .inl (cM, 4, .inl (upd fs 0 ((ks_sum f (n + 16)).1))))] H := hP
        have hD : va_D A [(h, .inr (1, [.ref qt, .int tn, .ref qk, .ref qs, .ref qm, .int hs])), (qk, .inl (cK, 16, .inl fk)), (qs, .inr (0, [.ref qw, .int (nI (ks_end (n + 16) + 8)), .int ((ks_sum f (n + 16)).1), .int ((ks_sum f (n + 16)).2.1), .int ((ks_sum f (n + 16)).2.2.1), .int ((ks_sum f (n + 16)).2.2.2)])), (qw, .inl (cW, 16, .inl wd3)), (qm, .inl (cM, 4, .inl (upd fs 0 ((ks_sum f (n + 16)).1))))] := hD
        refine lv_aload_n hx hb dX1_sum_59 rfl (lv_at hl 2 rfl) ?_
        refine va_get (D := (dC, dI)) (ci := 1) (v := .ref qm) (C := RX1) (T := TX1) (N := 6) hx hb hts (by decide +kernel) hown hK hP 0 rfl rfl 4 (by decide) (hts (.fieldLink RX1 27 "KeySums" "keptSum" "[I") (by decide +kernel)) (fun _ h9 => h9) rfl dX1_sum_60 ?_
        refine lv_iconst (v := 1) hx hb dX1_sum_63 (by decide) ?_
        refine kz_top (y := nI 1) (by decide) ?_
        refine lv_aload_n hx hb dX1_sum_64 rfl (lv_at hl 2 rfl) ?_
        refine va_get (D := (dC, dI)) (ci := 1) (v := .ref qs) (C := RX1) (T := TX1) (N := 6) hx hb hts (by decide +kernel) hown hK hP 0 rfl rfl 3 (by decide) (hts (.fieldLink RX1 23 "KeySums" "summer" "LKeySums$Summer;") (by decide +kernel)) (fun _ h9 => h9) rfl dX1_sum_65 ?_
        refine va_getN (D := (dC, dI)) (ci := 0) (v := .int ((ks_sum f (n + 16)).2.1)) (C := RX0) (T := TX0) (N := 6) hx hb hts (by decide +kernel) hown hK hP 2 rfl rfl 3 (by decide) (va_Nw.use rfl hN.2.2.1) (fun _ h9 => h9) rfl dX1_sum_68 ?_
        refine kz_iast (j := 1) hx hb hK hP hD hS 4 2 rfl rfl (show 1 < 4 by decide) (by decide) dX1_sum_71 (fun H locs hP hD hS => ?_)
        have hP : va_P (dC, dI) vwCl [(h, .inr (1, [.ref qt, .int tn, .ref qk, .ref qs, .ref qm, .int hs])), (qk, .inl (cK, 16, .inl fk)), (qs, .inr (0, [.ref qw, .int (nI (ks_end (n + 16) + 8)), .int ((ks_sum f (n + 16)).1), .int ((ks_sum f (n + 16)).2.1), .int ((ks_sum f (n + 16)).2.2.1), .int ((ks_sum f (n + 16)).2.2.2)])), (qw, .inl (cW, 16, .inl wd3)), (qm, .inl (cM, 4, .inl (upd (upd fs 0 ((ks_sum f (n + 16)).1)) 1 ((ks_sum f (n + 16)).2.1))))] H := hP
        have hD : va_D A [(h, .inr (1, [.ref qt, .int tn, .ref qk, .ref qs, .ref qm, .int hs])), (qk, .inl (cK, 16, .inl fk)), (qs, .inr (0, [.ref qw, .int (nI (ks_end (n + 16) + 8)), .int ((ks_sum f (n + 16)).1), .int ((ks_sum f (n + 16)).2.1), .int ((ks_sum f (n + 16)).2.2.1), .int ((ks_sum f (n + 16)).2.2.2)])), (qw, .inl (cW, 16, .inl wd3)), (qm, .inl (cM, 4, .inl (upd (upd fs 0 ((ks_sum f (n + 16)).1)) 1 ((ks_sum f (n + 16)).2.1))))] := hD
        refine lv_aload_n hx hb dX1_sum_72 rfl (lv_at hl 2 rfl) ?_
        refine va_get (D := (dC, dI)) (ci := 1) (v := .ref qm) (C := RX1) (T := TX1) (N := 6) hx hb hts (by decide +kernel) hown hK hP 0 rfl rfl 4 (by decide) (hts (.fieldLink RX1 27 "KeySums" "keptSum" "[I") (by decide +kernel)) (fun _ h9 => h9) rfl dX1_sum_73 ?_
        refine lv_iconst (v := 2) hx hb dX1_sum_76 (by decide) ?_
        refine kz_top (y := nI 2) (by decide) ?_
        refine lv_aload_n hx hb dX1_sum_77 rfl (lv_at hl 2 rfl) ?_
        refine va_get (D := (dC, dI)) (ci := 1) (v := .ref qs) (C := RX1) (T := TX1) (N := 6) hx hb hts (by decide +kernel) hown hK hP 0 rfl rfl 3 (by decide) (hts (.fieldLink RX1 23 "KeySums" "summer" "LKeySums$Summer;") (by decide +kernel)) (fun _ h9 => h9) rfl dX1_sum_78 ?_
        refine va_getN (D := (dC, dI)) (ci := 0) (v := .int ((ks_sum f (n + 16)).2.2.1)) (C := RX0) (T := TX0) (N := 6) hx hb hts (by decide +kernel) hown hK hP 2 rfl rfl 4 (by decide) (va_Nw.use rfl hN.2.2.2.1) (fun _ h9 => h9) rfl dX1_sum_81 ?_
        refine kz_iast (j := 2) hx hb hK hP hD hS 4 2 rfl rfl (show 2 < 4 by decide) (by decide) dX1_sum_84 (fun H locs hP hD hS => ?_)
        have hP : va_P (dC, dI) vwCl [(h, .inr (1, [.ref qt, .int tn, .ref qk, .ref qs, .ref qm, .int hs])), (qk, .inl (cK, 16, .inl fk)), (qs, .inr (0, [.ref qw, .int (nI (ks_end (n + 16) + 8)), .int ((ks_sum f (n + 16)).1), .int ((ks_sum f (n + 16)).2.1), .int ((ks_sum f (n + 16)).2.2.1), .int ((ks_sum f (n + 16)).2.2.2)])), (qw, .inl (cW, 16, .inl wd3)), (qm, .inl (cM, 4, .inl (upd (upd (upd fs 0 ((ks_sum f (n + 16)).1)) 1 ((ks_sum f (n + 16)).2.1)) 2 ((ks_sum f (n + 16)).2.2.1))))] H := hP
        have hD : va_D A [(h, .inr (1, [.ref qt, .int tn, .ref qk, .ref qs, .ref qm, .int hs])), (qk, .inl (cK, 16, .inl fk)), (qs, .inr (0, [.ref qw, .int (nI (ks_end (n + 16) + 8)), .int ((ks_sum f (n + 16)).1), .int ((ks_sum f (n + 16)).2.1), .int ((ks_sum f (n + 16)).2.2.1), .int ((ks_sum f (n + 16)).2.2.2)])), (qw, .inl (cW, 16, .inl wd3)), (qm, .inl (cM, 4, .inl (upd (upd (upd fs 0 ((ks_sum f (n + 16)).1)) 1 ((ks_sum f (n + 16)).2.1)) 2 ((ks_sum f (n + 16)).2.2.1))))] := hD
        refine lv_aload_n hx hb dX1_sum_85 rfl (lv_at hl 2 rfl) ?_
        refine va_get (D := (dC, dI)) (ci := 1) (v := .ref qm) (C := RX1) (T := TX1) (N := 6) hx hb hts (by decide +kernel) hown hK hP 0 rfl rfl 4 (by decide) (hts (.fieldLink RX1 27 "KeySums" "keptSum" "[I") (by decide +kernel)) (fun _ h9 => h9) rfl dX1_sum_86 ?_
        refine lv_iconst (v := 3) hx hb dX1_sum_89 (by decide) ?_
        refine kz_top (y := nI 3) (by decide) ?_
        refine lv_aload_n hx hb dX1_sum_90 rfl (lv_at hl 2 rfl) ?_
        refine va_get (D := (dC, dI)) (ci := 1) (v := .ref qs) (C := RX1) (T := TX1) (N := 6) hx hb hts (by decide +kernel) hown hK hP 0 rfl rfl 3 (by decide) (hts (.fieldLink RX1 23 "KeySums" "summer" "LKeySums$Summer;") (by decide +kernel)) (fun _ h9 => h9) rfl dX1_sum_91 ?_
        refine va_getN (D := (dC, dI)) (ci := 0) (v := .int ((ks_sum f (n + 16)).2.2.2)) (C := RX0) (T := TX0) (N := 6) hx hb hts (by decide +kernel) hown hK hP 2 rfl rfl 5 (by decide) (va_Nw.use rfl hN.2.2.2.2.1) (fun _ h9 => h9) rfl dX1_sum_94 ?_
        refine kz_iast (j := 3) hx hb hK hP hD hS 4 2 rfl rfl (show 3 < 4 by decide) (by decide) dX1_sum_97 (fun H locs hP hD hS => ?_)
        have hP : va_P (dC, dI) vwCl [(h, .inr (1, [.ref qt, .int tn, .ref qk, .ref qs, .ref qm, .int hs])), (qk, .inl (cK, 16, .inl fk)), (qs, .inr (0, [.ref qw, .int (nI (ks_end (n + 16) + 8)), .int ((ks_sum f (n + 16)).1), .int ((ks_sum f (n + 16)).2.1), .int ((ks_sum f (n + 16)).2.2.1), .int ((ks_sum f (n + 16)).2.2.2)])), (qw, .inl (cW, 16, .inl wd3)), (qm, .inl (cM, 4, .inl (upd (upd (upd (upd fs 0 ((ks_sum f (n + 16)).1)) 1 ((ks_sum f (n + 16)).2.1)) 2 ((ks_sum f (n + 16)).2.2.1)) 3 ((ks_sum f (n + 16)).2.2.2))))] H := hP
        have hD : va_D A [(h, .inr (1, [.ref qt, .int tn, .ref qk, .ref qs, .ref qm, .int hs])), (qk, .inl (cK, 16, .inl fk)), (qs, .inr (0, [.ref qw, .int (nI (ks_end (n + 16) + 8)), .int ((ks_sum f (n + 16)).1), .int ((ks_sum f (n + 16)).2.1), .int ((ks_sum f (n + 16)).2.2.1), .int ((ks_sum f (n + 16)).2.2.2)])), (qw, .inl (cW, 16, .inl wd3)), (qm, .inl (cM, 4, .inl (upd (upd (upd (upd fs 0 ((ks_sum f (n + 16)).1)) 1 ((ks_sum f (n + 16)).2.1)) 2 ((ks_sum f (n + 16)).2.2.1)) 3 ((ks_sum f (n + 16)).2.2.2))))] := hD
        refine lv_aload_n hx hb dX1_sum_98 rfl (lv_at hl 2 rfl) ?_
        refine lv_iconst (v := 1) hx hb dX1_sum_99 (by decide) ?_
        refine va_put (D := (dC, dI)) (ci := 1) (v := .int 1) (ty := .boolean) (C := RX1) (T := TX1) (N := 6) hx hb hts (by decide +kernel) tyX1 tyX1_ok nmX1 hown hK hP hD hS 0 rfl rfl 5 (by decide) (hts (.fieldLink RX1 31 "KeySums" "hasSum" "Z") (by decide +kernel)) (fun _ h9 => h9) rfl (by decide +kernel) rfl rfl (Nat.le_of_ble_eq_true rfl) dX1_sum_100 (fun H locs hP hD hS => ?_)
        have hP : va_P (dC, dI) vwCl [(h, .inr (1, [.ref qt, .int tn, .ref qk, .ref qs, .ref qm, .int 1])), (qk, .inl (cK, 16, .inl fk)), (qs, .inr (0, [.ref qw, .int (nI (ks_end (n + 16) + 8)), .int ((ks_sum f (n + 16)).1), .int ((ks_sum f (n + 16)).2.1), .int ((ks_sum f (n + 16)).2.2.1), .int ((ks_sum f (n + 16)).2.2.2)])), (qw, .inl (cW, 16, .inl wd3)), (qm, .inl (cM, 4, .inl (upd (upd (upd (upd fs 0 ((ks_sum f (n + 16)).1)) 1 ((ks_sum f (n + 16)).2.1)) 2 ((ks_sum f (n + 16)).2.2.1)) 3 ((ks_sum f (n + 16)).2.2.2))))] H := hP
        have hD : va_D A [(h, .inr (1, [.ref qt, .int tn, .ref qk, .ref qs, .ref qm, .int 1])), (qk, .inl (cK, 16, .inl fk)), (qs, .inr (0, [.ref qw, .int (nI (ks_end (n + 16) + 8)), .int ((ks_sum f (n + 16)).1), .int ((ks_sum f (n + 16)).2.1), .int ((ks_sum f (n + 16)).2.2.1), .int ((ks_sum f (n + 16)).2.2.2)])), (qw, .inl (cW, 16, .inl wd3)), (qm, .inl (cM, 4, .inl (upd (upd (upd (upd fs 0 ((ks_sum f (n + 16)).1)) 1 ((ks_sum f (n + 16)).2.1)) 2 ((ks_sum f (n + 16)).2.2.1)) 3 ((ks_sum f (n + 16)).2.2.2))))] := hD
        refine lv_aload_n hx hb dX1_sum_103 rfl (lv_at hl 2 rfl) ?_
        refine va_get (D := (dC, dI)) (ci := 1) (v := .ref qs) (C := RX1) (T := TX1) (N := 6) hx hb hts (by decide +kernel) hown hK hP 0 rfl rfl 3 (by decide) (hts (.fieldLink RX1 23 "KeySums" "summer" "LKeySums$Summer;") (by decide +kernel)) (fun _ h9 => h9) rfl dX1_sum_104 ?_
        have hPc := hP.sub (ws' := [(qs, .inr (0, [.ref qw, .int (nI (ks_end (n + 16) + 8)), .int ((ks_sum f (n + 16)).1), .int ((ks_sum f (n + 16)).2.1), .int ((ks_sum f (n + 16)).2.2.1), .int ((ks_sum f (n + 16)).2.2.2)]))]) [2] rfl
        have hDc := hD.sub (ws' := [(qs, .inr (0, [.ref qw, .int (nI (ks_end (n + 16) + 8)), .int ((ks_sum f (n + 16)).1), .int ((ks_sum f (n + 16)).2.1), .int ((ks_sum f (n + 16)).2.2.1), .int ((ks_sum f (n + 16)).2.2.2)]))]) [2] (by decide) rfl
        have hKc := hK.sub (tys' := []) [] rfl
        have hFc := va_free (wc := [(qs, .inr (0, [.ref qw, .int (nI (ks_end (n + 16) + 8)), .int ((ks_sum f (n + 16)).1), .int ((ks_sum f (n + 16)).2.1), .int ((ks_sum f (n + 16)).2.2.1), .int ((ks_sum f (n + 16)).2.2.2)]))]) hD hS hA [2] rfl
        refine va_callv (va_runVN (As := []) (rest := []) ⟨hx, hb, hml, hown, hts⟩ (c_restart l dC dI H.size qs qw (nI (ks_end (n + 16) + 8)) (ks_sum f (n + 16))) ⟨va_cnB 0 hts gX1_sum_X0_restart_n61 rfl rfl rfl hN.2.2.2.2.2.2.2.2 (hts (.initialized RX0) (by decide +kernel)) (by decide +kernel) ⟨Nat.le_of_ble_eq_true rfl, Nat.le_of_ble_eq_true rfl⟩, hts (.instanceMethod yX0_restart) (by decide +kernel), hts (.selects RX0 yX0_restart yX0_restart) (by decide +kernel)⟩ ⟨fun a U g mk q => by obtain ⟨q0, q1, qP, qK, qD⟩ := q; exact ⟨q0, q1, qP, va_K.moved (u := U) (U := U.calling g mk a) (Vm.Alike.refl U.vm) qK, qD⟩, va_recv hKc hPc (ci := 0) (q0 := 0) rfl rfl, fun U hU hW => ⟨rfl, by rw [hU], by rw [hU]; exact hPc, va_K.moved hW.alike hKc, hDc.weaken (fun _ _ _ _ => trivial)⟩⟩ rfl rfl hl.1 rfl (lv_room (Nat.le_of_ble_eq_true rfl)) dX1_sum_107 ⟨Nat.zero_le _, Nat.zero_le _⟩) hS (fun q _ h => hFc q h) hFc (fun u t H1 locs ht hvm hw hB hz1 hk1 hS => ?_)
        obtain ⟨hP1, hK1, hD1⟩ := hB
        rw [ht] at hP1
        have hK1 := va_K.moved hvm.symm hK1
        try dsimp only at hw
        obtain ⟨hP, hD⟩ := va_join (wr := [(h, .inr (1, [.ref qt, .int tn, .ref qk, .ref qs, .ref qm, .int 1])), (qk, .inl (cK, 16, .inl fk)), (qw, .inl (cW, 16, .inl wd3)), (qm, .inl (cM, 4, .inl (upd (upd (upd (upd fs 0 ((ks_sum f (n + 16)).1)) 1 ((ks_sum f (n + 16)).2.1)) 2 ((ks_sum f (n + 16)).2.2.1)) 3 ((ks_sum f (n + 16)).2.2.2))))]) (w1 := [(qs, .inr (0, [.ref qw, .int (nI 0), .int 1732584193, .int (-271733879), .int (-1732584194), .int 271733878]))]) hP hD [2] [0, 1, 3, 4] rfl rfl (by decide) (by decide) hk1 hFc hP1 hD1
        have hP := hP.sub (ws' := [(h, .inr (1, [.ref qt, .int tn, .ref qk, .ref qs, .ref qm, .int 1])), (qk, .inl (cK, 16, .inl fk)), (qs, .inr (0, [.ref qw, .int (nI 0), .int 1732584193, .int (-271733879), .int (-1732584194), .int 271733878])), (qw, .inl (cW, 16, .inl wd3)), (qm, .inl (cM, 4, .inl (upd (upd (upd (upd fs 0 ((ks_sum f (n + 16)).1)) 1 ((ks_sum f (n + 16)).2.1)) 2 ((ks_sum f (n + 16)).2.2.1)) 3 ((ks_sum f (n + 16)).2.2.2))))]) [0, 1, 4, 2, 3] rfl
        have hD := hD.sub (ws' := [(h, .inr (1, [.ref qt, .int tn, .ref qk, .ref qs, .ref qm, .int 1])), (qk, .inl (cK, 16, .inl fk)), (qs, .inr (0, [.ref qw, .int (nI 0), .int 1732584193, .int (-271733879), .int (-1732584194), .int 271733878])), (qw, .inl (cW, 16, .inl wd3)), (qm, .inl (cM, 4, .inl (upd (upd (upd (upd fs 0 ((ks_sum f (n + 16)).1)) 1 ((ks_sum f (n + 16)).2.1)) 2 ((ks_sum f (n + 16)).2.2.1)) 3 ((ks_sum f (n + 16)).2.2.2))))]) [0, 1, 4, 2, 3] (by decide) rfl
        generalize H1 = H at hP hS ⊢
        have hP : va_P (dC, dI) vwCl [(h, .inr (1, [.ref qt, .int tn, .ref qk, .ref qs, .ref qm, .int 1])), (qk, .inl (cK, 16, .inl fk)), (qs, .inr (0, [.ref qw, .int (nI 0), .int 1732584193, .int (-271733879), .int (-1732584194), .int 271733878])), (qw, .inl (cW, 16, .inl wd3)), (qm, .inl (cM, 4, .inl (upd (upd (upd (upd fs 0 ((ks_sum f (n + 16)).1)) 1 ((ks_sum f (n + 16)).2.1)) 2 ((ks_sum f (n + 16)).2.2.1)) 3 ((ks_sum f (n + 16)).2.2.2))))] H := hP
        have hD : va_D A [(h, .inr (1, [.ref qt, .int tn, .ref qk, .ref qs, .ref qm, .int 1])), (qk, .inl (cK, 16, .inl fk)), (qs, .inr (0, [.ref qw, .int (nI 0), .int 1732584193, .int (-271733879), .int (-1732584194), .int 271733878])), (qw, .inl (cW, 16, .inl wd3)), (qm, .inl (cM, 4, .inl (upd (upd (upd (upd fs 0 ((ks_sum f (n + 16)).1)) 1 ((ks_sum f (n + 16)).2.1)) 2 ((ks_sum f (n + 16)).2.2.1)) 3 ((ks_sum f (n + 16)).2.2.2))))] := hD
        refine lv_iload_n hx hb dX1_sum_110 rfl (lv_at hl 1 rfl) ?_
        have hP9 := hP.sub (ws' := [(h, .inr (1, [.ref qt, .int tn, .ref qk, .ref qs, .ref qm, .int 1])), (qk, .inl (cK, 16, .inl fk)), (qs, .inr (0, [.ref qw, .int (nI 0), .int 1732584193, .int (-271733879), .int (-1732584194), .int 271733878])), (qw, .inl (cW, 16, .inl wd3)), (qm, .inl (cM, 4, .inl (upd (upd (upd (upd fs 0 ((ks_sum f (n + 16)).1)) 1 ((ks_sum f (n + 16)).2.1)) 2 ((ks_sum f (n + 16)).2.2.1)) 3 ((ks_sum f (n + 16)).2.2.2))))]) [0, 1, 2, 3, 4] rfl
        have hD9 := hD.sub (ws' := [(h, .inr (1, [.ref qt, .int tn, .ref qk, .ref qs, .ref qm, .int 1])), (qk, .inl (cK, 16, .inl fk)), (qs, .inr (0, [.ref qw, .int (nI 0), .int 1732584193, .int (-271733879), .int (-1732584194), .int 271733878])), (qw, .inl (cW, 16, .inl wd3)), (qm, .inl (cM, 4, .inl (upd (upd (upd (upd fs 0 ((ks_sum f (n + 16)).1)) 1 ((ks_sum f (n + 16)).2.1)) 2 ((ks_sum f (n + 16)).2.2.1)) 3 ((ks_sum f (n + 16)).2.2.2))))]) [0, 1, 2, 3, 4] (by decide) rfl
        have hK9 := hK.sub (tys' := [(cK, .byte), (cW, .int), (cM, .int)]) [0, 1, 2] rfl
        exact W.iret (v := (nI n)) hx hb hr (fun t ht hW => ⟨⟨(nI n), wd3, rfl, rfl, by rw [ht]; exact hP9, va_K.moved hW.alike hK9, hD9⟩, hS.F ht⟩) hS.2.2 dX1_sum_111
      · skip
        exact absurd (nI_le (a := 16) (b := 16) (Nat.le_refl _) (by decide)) hc
end
section
set_option maxHeartbeats 4000000 in
set_option maxRecDepth 100000 in
/-- Summer() -/
theorem c_Sinit (l : Launch) (dC : Nat → ClassId) (dI : Nat → Nat → Nat) (sz : Nat) (h : Nat) : Met l yX0_init wsX0_init ({ frames := 1, cells := 1, slots := 16, locals := 30 }) (va_Pc [.ref h] (fun U => U.heap.size = sz ∧ va_P (dC, dI) vwCl [(h, .inr (0, [.null, .int 0, .int 0, .int 0, .int 0, .int 0]))] U.heap ∧ va_K (dC, dI) vwCl [] U ∧ va_D (fun _ => True) [(h, .inr (0, [.null, .int 0, .int 0, .int 0, .int 0, .int 0]))])) (va_Qv (fun _u : Unit => True) (fun (_u : Unit) t => ∃ (w : Nat) (cW : ClassId), kz_B dC dI [(cW, .int)] (va_A [(h, .inr (0, [.null, .int 0, .int 0, .int 0, .int 0, .int 0]))] sz) [(h, .inr (0, [.ref w, .int (nI 0), .int 1732584193, .int (-271733879), .int (-1732584194), .int 271733878])), (w, .inl (cW, 16, .inl (fun _ => 0)))] t) (va_A [(h, .inr (0, [.null, .int 0, .int 0, .int 0, .int 0, .int 0]))] sz)) 1 16 (va_A [(h, .inr (0, [.null, .int 0, .int 0, .int 0, .int 0, .int 0]))] sz) := by
  refine Met.ofW (cc := cX0_init) (maxL := 1) (ret := none) (by decide) rfl ?_
  intro p e s m args below meth c s₁ B hml hv
  obtain ⟨rfl, hsz, hP, hK, hD0⟩ := hv
  have hx := B.exec
  have hb := B.bytes
  have hr := B.returns
  have hts := atoms_spec (ws := wsX0_init) B.pre
  have hown : s.vm.findClass RX0 = some m.cls := findClass_of_methodNamed B.named
  have hlocks := B.notSynchronized
  have hin : meth.name = "<init>" := (name_of_methodNamed B.named B.method).1
  subst hsz
  have hD := hD0.self (sz := s.heap.size)
  generalize hAe : va_A [(h, .inr (0, [.null, .int 0, .int 0, .int 0, .int 0, .int 0]))] s.heap.size = A at hD  ⊢
  have hA : ∀ q : Nat, s.heap.size ≤ q → A q := fun q h => by rw [← hAe]; exact Or.inr h
  have hS : va_S A s.heap s.heap [] := va_S.rf
  have hP : va_P (dC, dI) vwCl [(h, .inr (0, [.null, .int 0, .int 0, .int 0, .int 0, .int 0]))] s.heap := hP
  have hl := lv_entry ([.ref h]) (n := 1) (Nat.le_of_ble_eq_true rfl)
  rw [lg_entry_eq]
  generalize (lg_sl ([.ref h]) ++ List.replicate (1 - (lg_sl ([.ref h])).length) Slot.unset).toArray = ls at hl ⊢
  have hl : lv_has ls 1 [(0, .ref h)] := hl
  refine lv_aload_n hx hb dX0_init_0 rfl (lv_at hl 0 rfl) ?_
  refine W.objInit hx hb hown (hts (.methodLink RX0 1 objectInit) (by decide +kernel)) (hts (.instanceMethod objectInit) (by decide +kernel)) (hts _ (List.mem_cons_of_mem _ (List.mem_append_left _ (List.mem_of_getElem? (i := 2) rfl)))) rfl (by rw [hml]; exact hl.1) rfl dX0_init_1 (Nat.le_of_ble_eq_true rfl) (Nat.le_of_ble_eq_true rfl) ?_
  refine W.eq (g2 := F0 m 4 ls []) rfl ?_
  refine lv_aload_n hx hb dX0_init_4 rfl (lv_at hl 0 rfl) ?_
  refine lv_bipush (v := 16) hx hb dX0_init_5 (by decide) ?_
  refine va_newa (atype := .int) (ty := .int) (N' := 16) (a0 := (16, .inl (fun _ => 0))) hx hb (hts (.arrayClass .int) (by decide +kernel)) rfl hK hP hD hS hA (fun cA => rfl) (by decide +kernel) (by decide +kernel) (by decide +kernel) (Nat.le_of_ble_eq_true rfl) (Nat.le_of_ble_eq_true rfl) dX0_init_7 (fun w cW H hK hP hD hS => ?_)
  have hP : va_P (dC, dI) vwCl [(h, .inr (0, [.null, .int 0, .int 0, .int 0, .int 0, .int 0])), (w, .inl (cW, 16, .inl (fun _ => 0)))] H := hP
  have hD : va_D A [(h, .inr (0, [.null, .int 0, .int 0, .int 0, .int 0, .int 0])), (w, .inl (cW, 16, .inl (fun _ => 0)))] := hD
  have hK : va_K (dC, dI) vwCl [(cW, .int)] s := hK
  refine W.widen (k := 1) (n := 16) (Nat.le_of_ble_eq_true rfl) (Nat.le_of_ble_eq_true rfl) ?_
  refine va_putF (D := (dC, dI)) (ci := 0) (v := .ref w) (ty := .array .int) (C := RX0) (T := TX0) (N := 6) hx hb hts (by decide +kernel) tyX0 tyX0_ok nmX0 hown hK hP hD hS 0 rfl rfl 0 (by decide) (hts (.fieldLink RX0 7 "KeySums$Summer" "words" "[I") (by decide +kernel)) (fun _ h9 => h9) rfl hin rfl (by decide +kernel) rfl rfl (Nat.le_of_ble_eq_true rfl) dX0_init_9 (fun H locs hP hD hS => ?_)
  have hP : va_P (dC, dI) vwCl [(h, .inr (0, [.ref w, .int 0, .int 0, .int 0, .int 0, .int 0])), (w, .inl (cW, 16, .inl (fun _ => 0)))] H := hP
  have hD : va_D A [(h, .inr (0, [.ref w, .int 0, .int 0, .int 0, .int 0, .int 0])), (w, .inl (cW, 16, .inl (fun _ => 0)))] := hD
  refine lv_aload_n hx hb dX0_init_12 rfl (lv_at hl 0 rfl) ?_
  have hPc := hP.sub (ws' := [(h, .inr (0, [.ref w, .int 0, .int 0, .int 0, .int 0, .int 0]))]) [0] rfl
  have hDc := hD.sub (ws' := [(h, .inr (0, [.ref w, .int 0, .int 0, .int 0, .int 0, .int 0]))]) [0] (by decide) rfl
  have hKc := hK.sub (tys' := []) [] rfl
  have hFc := va_free (wc := [(h, .inr (0, [.ref w, .int 0, .int 0, .int 0, .int 0, .int 0]))]) hD hS hA [0] rfl
  refine va_callv (va_runV (As := []) (rest := []) ⟨hx, hb, hml, hown, hts⟩ (c_restart l dC dI H.size h w 0 (0, 0, 0, 0)) (cwV 0 hts gX0_init_X0_restart rfl rfl rfl (by decide +kernel) ⟨Nat.le_of_ble_eq_true rfl, Nat.le_of_ble_eq_true rfl⟩) ⟨fun a U g mk q => by obtain ⟨q0, q1, qP, qK, qD⟩ := q; exact ⟨q0, q1, qP, va_K.moved (u := U) (U := U.calling g mk a) (Vm.Alike.refl U.vm) qK, qD⟩, va_recv hKc hPc (ci := 0) (q0 := 0) rfl rfl, fun U hU hW => ⟨rfl, by rw [hU], by rw [hU]; exact hPc, va_K.moved hW.alike hKc, hDc.weaken (fun _ _ _ _ => trivial)⟩⟩ rfl rfl hl.1 rfl (lv_room (Nat.le_of_ble_eq_true rfl)) dX0_init_13 ⟨Nat.le_of_ble_eq_true rfl, Nat.le_of_ble_eq_true rfl⟩) hS (fun q _ h => hFc q h) hFc (fun u t H1 locs ht hvm hw hB hz1 hk1 hS => ?_)
  obtain ⟨hP1, hK1, hD1⟩ := hB
  rw [ht] at hP1
  have hK1 := va_K.moved hvm.symm hK1
  try dsimp only at hw
  obtain ⟨hP, hD⟩ := va_join (wr := [(w, .inl (cW, 16, .inl (fun _ => 0)))]) (w1 := [(h, .inr (0, [.ref w, .int (nI 0), .int 1732584193, .int (-271733879), .int (-1732584194), .int 271733878]))]) hP hD [0] [1] rfl rfl (by decide) (by decide) hk1 hFc hP1 hD1
  have hP := hP.sub (ws' := [(h, .inr (0, [.ref w, .int (nI 0), .int 1732584193, .int (-271733879), .int (-1732584194), .int 271733878])), (w, .inl (cW, 16, .inl (fun _ => 0)))]) [1, 0] rfl
  have hD := hD.sub (ws' := [(h, .inr (0, [.ref w, .int (nI 0), .int 1732584193, .int (-271733879), .int (-1732584194), .int 271733878])), (w, .inl (cW, 16, .inl (fun _ => 0)))]) [1, 0] (by decide) rfl
  generalize H1 = H at hP hS ⊢
  have hP : va_P (dC, dI) vwCl [(h, .inr (0, [.ref w, .int (nI 0), .int 1732584193, .int (-271733879), .int (-1732584194), .int 271733878])), (w, .inl (cW, 16, .inl (fun _ => 0)))] H := hP
  have hD : va_D A [(h, .inr (0, [.ref w, .int (nI 0), .int 1732584193, .int (-271733879), .int (-1732584194), .int 271733878])), (w, .inl (cW, 16, .inl (fun _ => 0)))] := hD
  refine W.widen (k := 1) (n := 16) (Nat.le_of_ble_eq_true rfl) (Nat.le_of_ble_eq_true rfl) ?_
  have hP9 := hP.sub (ws' := [(h, .inr (0, [.ref w, .int (nI 0), .int 1732584193, .int (-271733879), .int (-1732584194), .int 271733878])), (w, .inl (cW, 16, .inl (fun _ => 0)))]) [0, 1] rfl
  have hD9 := hD.sub (ws' := [(h, .inr (0, [.ref w, .int (nI 0), .int 1732584193, .int (-271733879), .int (-1732584194), .int 271733878])), (w, .inl (cW, 16, .inl (fun _ => 0)))]) [0, 1] (by decide) rfl
  have hK9 := hK.sub (tys' := [(cW, .int)]) [0] rfl
  exact W.vret hx hb hr (fun t ht hW => ⟨⟨(), rfl, trivial, w, cW, by rw [ht]; exact hP9, va_K.moved hW.alike hK9, hD9⟩, hS.F ht⟩) hS.2.2 dX0_init_16
end
section
set_option maxHeartbeats 4000000 in
set_option maxRecDepth 100000 in
/-- KeySums() -/
theorem c_Kinit (l : Launch) (dC : Nat → ClassId) (dI : Nat → Nat → Nat) (sz : Nat) (h : Nat) : Met l yX1_init wsX1_init ({ frames := 2, cells := 5, slots := 2042, locals := 60 }) (va_Pc [.ref h] (fun U => U.heap.size = sz ∧ va_P (dC, dI) vwCl [(h, .inr (1, [.null, .int 0, .null, .null, .null, .int 0]))] U.heap ∧ va_K (dC, dI) vwCl [] U ∧ va_D (fun _ => True) [(h, .inr (1, [.null, .int 0, .null, .null, .null, .int 0]))] ∧ ks_nw U)) (va_Qv (fun _u : Unit => True) (fun (_u : Unit) t => ∃ (qt qk qs qw qm : Nat) (cT cK cW cM : ClassId), kz_B dC dI [(cT, .byte), (cK, .byte), (cW, .int), (cM, .int)] (va_A [(h, .inr (1, [.null, .int 0, .null, .null, .null, .int 0]))] sz) [(h, .inr (1, [.ref qt, .int (nI 0), .ref qk, .ref qs, .ref qm, .int 0])), (qt, .inl (cT, 2000, .inl (fun _ => 0))), (qk, .inl (cK, 16, .inl (fun _ => 0))), (qs, .inr (0, [.ref qw, .int (nI 0), .int 1732584193, .int (-271733879), .int (-1732584194), .int 271733878])), (qw, .inl (cW, 16, .inl (fun _ => 0))), (qm, .inl (cM, 4, .inl (fun _ => 0)))] t) (va_A [(h, .inr (1, [.null, .int 0, .null, .null, .null, .int 0]))] sz)) 5 2042 (va_A [(h, .inr (1, [.null, .int 0, .null, .null, .null, .int 0]))] sz) := by
  refine Met.ofW (cc := cX1_init) (maxL := 1) (ret := none) (by decide) rfl ?_
  intro p e s m args below meth c s₁ B hml hv
  obtain ⟨rfl, hsz, hP, hK, hD0, hN⟩ := hv
  have hx := B.exec
  have hb := B.bytes
  have hr := B.returns
  have hts := atoms_spec (ws := wsX1_init) B.pre
  have hown : s.vm.findClass RX1 = some m.cls := findClass_of_methodNamed B.named
  have hlocks := B.notSynchronized
  have hin : meth.name = "<init>" := (name_of_methodNamed B.named B.method).1
  subst hsz
  have hD := hD0.self (sz := s.heap.size)
  generalize hAe : va_A [(h, .inr (1, [.null, .int 0, .null, .null, .null, .int 0]))] s.heap.size = A at hD  ⊢
  have hA : ∀ q : Nat, s.heap.size ≤ q → A q := fun q h => by rw [← hAe]; exact Or.inr h
  have hS : va_S A s.heap s.heap [] := va_S.rf
  have hP : va_P (dC, dI) vwCl [(h, .inr (1, [.null, .int 0, .null, .null, .null, .int 0]))] s.heap := hP
  have hl := lv_entry ([.ref h]) (n := 1) (Nat.le_of_ble_eq_true rfl)
  rw [lg_entry_eq]
  generalize (lg_sl ([.ref h]) ++ List.replicate (1 - (lg_sl ([.ref h])).length) Slot.unset).toArray = ls at hl ⊢
  have hl : lv_has ls 1 [(0, .ref h)] := hl
  refine lv_aload_n hx hb dX1_init_0 rfl (lv_at hl 0 rfl) ?_
  refine W.objInit hx hb hown (hts (.methodLink RX1 1 objectInit) (by decide +kernel)) (hts (.instanceMethod objectInit) (by decide +kernel)) (hts _ (List.mem_cons_of_mem _ (List.mem_append_left _ (List.mem_append_left _ (List.mem_append_left _ (List.mem_of_getElem? (i := 2) rfl)))))) rfl (by rw [hml]; exact hl.1) rfl dX1_init_1 (Nat.le_of_ble_eq_true rfl) (Nat.le_of_ble_eq_true rfl) ?_
  refine W.eq (g2 := F0 m 4 ls []) rfl ?_
  refine lv_aload_n hx hb dX1_init_4 rfl (lv_at hl 0 rfl) ?_
  refine lv_sipush (v := 2000) hx hb dX1_init_5 (by decide) ?_
  refine va_newa (atype := .byte) (ty := .byte) (N' := 2000) (a0 := (2000, .inl (fun _ => 0))) hx hb (hts (.arrayClass .byte) (by decide +kernel)) rfl hK hP hD hS hA (fun cA => rfl) (by decide +kernel) (by decide +kernel) (by decide +kernel) (Nat.le_of_ble_eq_true rfl) (Nat.le_of_ble_eq_true rfl) dX1_init_8 (fun qt cT H hK hP hD hS => ?_)
  have hP : va_P (dC, dI) vwCl [(h, .inr (1, [.null, .int 0, .null, .null, .null, .int 0])), (qt, .inl (cT, 2000, .inl (fun _ => 0)))] H := hP
  have hD : va_D A [(h, .inr (1, [.null, .int 0, .null, .null, .null, .int 0])), (qt, .inl (cT, 2000, .inl (fun _ => 0)))] := hD
  have hK : va_K (dC, dI) vwCl [(cT, .byte)] s := hK
  refine W.widen (k := 1) (n := 2000) (Nat.le_of_ble_eq_true rfl) (Nat.le_of_ble_eq_true rfl) ?_
  refine va_putF (D := (dC, dI)) (ci := 1) (v := .ref qt) (ty := .array .byte) (C := RX1) (T := TX1) (N := 6) hx hb hts (by decide +kernel) tyX1 tyX1_ok nmX1 hown hK hP hD hS 0 rfl rfl 0 (by decide) (hts (.fieldLink RX1 9 "KeySums" "tape" "[B") (by decide +kernel)) (fun _ h9 => h9) rfl hin rfl (by decide +kernel) rfl rfl (Nat.le_of_ble_eq_true rfl) dX1_init_10 (fun H locs hP hD hS => ?_)
  have hP : va_P (dC, dI) vwCl [(h, .inr (1, [.ref qt, .int 0, .null, .null, .null, .int 0])), (qt, .inl (cT, 2000, .inl (fun _ => 0)))] H := hP
  have hD : va_D A [(h, .inr (1, [.ref qt, .int 0, .null, .null, .null, .int 0])), (qt, .inl (cT, 2000, .inl (fun _ => 0)))] := hD
  refine lv_aload_n hx hb dX1_init_13 rfl (lv_at hl 0 rfl) ?_
  refine lv_iconst (v := 0) hx hb dX1_init_14 (by decide) ?_
  refine kz_top (y := nI 0) nI_0.symm ?_
  refine va_put (D := (dC, dI)) (ci := 1) (v := .int (nI 0)) (ty := .int) (C := RX1) (T := TX1) (N := 6) hx hb hts (by decide +kernel) tyX1 tyX1_ok nmX1 hown hK hP hD hS 0 rfl rfl 1 (by decide) (hts (.fieldLink RX1 13 "KeySums" "tapeSize" "I") (by decide +kernel)) (fun _ h9 => h9) rfl (by decide +kernel) rfl rfl (Nat.le_of_ble_eq_true rfl) dX1_init_15 (fun H locs hP hD hS => ?_)
  have hP : va_P (dC, dI) vwCl [(h, .inr (1, [.ref qt, .int (nI 0), .null, .null, .null, .int 0])), (qt, .inl (cT, 2000, .inl (fun _ => 0)))] H := hP
  have hD : va_D A [(h, .inr (1, [.ref qt, .int (nI 0), .null, .null, .null, .int 0])), (qt, .inl (cT, 2000, .inl (fun _ => 0)))] := hD
  refine lv_aload_n hx hb dX1_init_18 rfl (lv_at hl 0 rfl) ?_
  refine lv_bipush (v := 16) hx hb dX1_init_19 (by decide) ?_
  refine va_newa (atype := .byte) (ty := .byte) (N' := 16) (a0 := (16, .inl (fun _ => 0))) hx hb (hts (.arrayClass .byte) (by decide +kernel)) rfl hK hP hD hS hA (fun cA => rfl) (by decide +kernel) (by decide +kernel) (by decide +kernel) (Nat.le_of_ble_eq_true rfl) (Nat.le_of_ble_eq_true rfl) dX1_init_21 (fun qk cK H hK hP hD hS => ?_)
  have hP : va_P (dC, dI) vwCl [(h, .inr (1, [.ref qt, .int (nI 0), .null, .null, .null, .int 0])), (qt, .inl (cT, 2000, .inl (fun _ => 0))), (qk, .inl (cK, 16, .inl (fun _ => 0)))] H := hP
  have hD : va_D A [(h, .inr (1, [.ref qt, .int (nI 0), .null, .null, .null, .int 0])), (qt, .inl (cT, 2000, .inl (fun _ => 0))), (qk, .inl (cK, 16, .inl (fun _ => 0)))] := hD
  have hK : va_K (dC, dI) vwCl [(cT, .byte), (cK, .byte)] s := hK
  refine W.widen (k := 2) (n := 2016) (Nat.le_of_ble_eq_true rfl) (Nat.le_of_ble_eq_true rfl) ?_
  refine va_putF (D := (dC, dI)) (ci := 1) (v := .ref qk) (ty := .array .byte) (C := RX1) (T := TX1) (N := 6) hx hb hts (by decide +kernel) tyX1 tyX1_ok nmX1 hown hK hP hD hS 0 rfl rfl 2 (by decide) (hts (.fieldLink RX1 17 "KeySums" "keyBytes" "[B") (by decide +kernel)) (fun _ h9 => h9) rfl hin rfl (by decide +kernel) rfl rfl (Nat.le_of_ble_eq_true rfl) dX1_init_23 (fun H locs hP hD hS => ?_)
  have hP : va_P (dC, dI) vwCl [(h, .inr (1, [.ref qt, .int (nI 0), .ref qk, .null, .null, .int 0])), (qt, .inl (cT, 2000, .inl (fun _ => 0))), (qk, .inl (cK, 16, .inl (fun _ => 0)))] H := hP
  have hD : va_D A [(h, .inr (1, [.ref qt, .int (nI 0), .ref qk, .null, .null, .int 0])), (qt, .inl (cT, 2000, .inl (fun _ => 0))), (qk, .inl (cK, 16, .inl (fun _ => 0)))] := hD
  refine lv_aload_n hx hb dX1_init_26 rfl (lv_at hl 0 rfl) ?_
  refine va_new (ci := 0) (fs := [.null, .int 0, .int 0, .int 0, .int 0, .int 0]) (C := RX0) (T := TX0) (N := 6) hx hb hts (by decide +kernel) tyX0 tyX0_ok hown (hts (.classLink RX1 20 RX0) (by decide +kernel)) (hts (.instantiable RX0 6) (by decide +kernel)) (hts (.initialized RX0) (by decide +kernel)) hK hP hD hS hA rfl (fun j hj => by rcases (show j = 0 ∨ j = 1 ∨ j = 2 ∨ j = 3 ∨ j = 4 ∨ j = 5 by omega) with rfl | rfl | rfl | rfl | rfl | rfl <;> rfl) (Nat.le_of_ble_eq_true rfl) (Nat.le_of_ble_eq_true rfl) dX1_init_27 (fun qs H hP hD hS => ?_)
  have hP : va_P (dC, dI) vwCl [(h, .inr (1, [.ref qt, .int (nI 0), .ref qk, .null, .null, .int 0])), (qt, .inl (cT, 2000, .inl (fun _ => 0))), (qk, .inl (cK, 16, .inl (fun _ => 0))), (qs, .inr (0, [.null, .int 0, .int 0, .int 0, .int 0, .int 0]))] H := hP
  have hD : va_D A [(h, .inr (1, [.ref qt, .int (nI 0), .ref qk, .null, .null, .int 0])), (qt, .inl (cT, 2000, .inl (fun _ => 0))), (qk, .inl (cK, 16, .inl (fun _ => 0))), (qs, .inr (0, [.null, .int 0, .int 0, .int 0, .int 0, .int 0]))] := hD
  refine W.widen (k := 3) (n := 2022) (Nat.le_of_ble_eq_true rfl) (Nat.le_of_ble_eq_true rfl) ?_
  refine lv_dup hx hb dX1_init_30 rfl ?_
  have hPc := hP.sub (ws' := [(qs, .inr (0, [.null, .int 0, .int 0, .int 0, .int 0, .int 0]))]) [3] rfl
  have hDc := hD.sub (ws' := [(qs, .inr (0, [.null, .int 0, .int 0, .int 0, .int 0, .int 0]))]) [3] (by decide) rfl
  have hKc := hK.sub (tys' := []) [] rfl
  have hFc := va_free (wc := [(qs, .inr (0, [.null, .int 0, .int 0, .int 0, .int 0, .int 0]))]) hD hS hA [3] rfl
  refine va_callv (va_runIN (As := []) (rest := [.ref qs, .ref h]) ⟨hx, hb, hml, hown, hts⟩ (c_Sinit l dC dI H.size qs) ⟨va_cnB 0 hts gX1_init_X0_init_n22 rfl rfl rfl hN.2.2.2.2.2.1 (hts (.initialized RX0) (by decide +kernel)) (by decide +kernel) ⟨Nat.le_of_ble_eq_true rfl, Nat.le_of_ble_eq_true rfl⟩, rfl, hts (.instanceMethod yX0_init) (by decide +kernel)⟩ ⟨fun a U g mk q => by obtain ⟨q0, q1, qP, qK, qD⟩ := q; exact ⟨q0, q1, qP, va_K.moved (u := U) (U := U.calling g mk a) (Vm.Alike.refl U.vm) qK, qD⟩, fun U hU hW => ⟨rfl, by rw [hU], by rw [hU]; exact hPc, va_K.moved hW.alike hKc, hDc.weaken (fun _ _ _ _ => trivial)⟩⟩ rfl rfl hl.1 rfl (lv_room (Nat.le_of_ble_eq_true rfl)) dX1_init_31 ⟨Nat.le_of_ble_eq_true rfl, Nat.le_of_ble_eq_true rfl⟩) hS (fun q _ h => hFc q h) hFc (fun u t H1 locs ht hvm hw hB hz1 hk1 hS => ?_)
  obtain ⟨qw, cW, hP1, hK1, hD1⟩ := hB
  rw [ht] at hP1
  have hK1 := va_K.moved hvm.symm hK1
  try dsimp only at hw
  obtain ⟨hP, hD⟩ := va_join (wr := [(h, .inr (1, [.ref qt, .int (nI 0), .ref qk, .null, .null, .int 0])), (qt, .inl (cT, 2000, .inl (fun _ => 0))), (qk, .inl (cK, 16, .inl (fun _ => 0)))]) (w1 := [(qs, .inr (0, [.ref qw, .int (nI 0), .int 1732584193, .int (-271733879), .int (-1732584194), .int 271733878])), (qw, .inl (cW, 16, .inl (fun _ => 0)))]) hP hD [3] [0, 1, 2] rfl rfl (by decide) (by decide) hk1 hFc hP1 hD1
  have hK := (hK.sub (tys' := [(cT, .byte), (cK, .byte)]) [0, 1] rfl).app hK1
  generalize H1 = H at hP hS ⊢
  have hP : va_P (dC, dI) vwCl [(h, .inr (1, [.ref qt, .int (nI 0), .ref qk, .null, .null, .int 0])), (qt, .inl (cT, 2000, .inl (fun _ => 0))), (qk, .inl (cK, 16, .inl (fun _ => 0))), (qs, .inr (0, [.ref qw, .int (nI 0), .int 1732584193, .int (-271733879), .int (-1732584194), .int 271733878])), (qw, .inl (cW, 16, .inl (fun _ => 0)))] H := hP
  have hD : va_D A [(h, .inr (1, [.ref qt, .int (nI 0), .ref qk, .null, .null, .int 0])), (qt, .inl (cT, 2000, .inl (fun _ => 0))), (qk, .inl (cK, 16, .inl (fun _ => 0))), (qs, .inr (0, [.ref qw, .int (nI 0), .int 1732584193, .int (-271733879), .int (-1732584194), .int 271733878])), (qw, .inl (cW, 16, .inl (fun _ => 0)))] := hD
  have hK : va_K (dC, dI) vwCl [(cT, .byte), (cK, .byte), (cW, .int)] s := hK
  refine W.widen (k := 4) (n := 2038) (Nat.le_of_ble_eq_true rfl) (Nat.le_of_ble_eq_true rfl) ?_
  refine va_putF (D := (dC, dI)) (ci := 1) (v := .ref qs) (ty := .object "KeySums$Summer") (C := RX1) (T := TX1) (N := 6) hx hb hts (by decide +kernel) tyX1 tyX1_ok nmX1 hown hK hP hD hS 0 rfl rfl 3 (by decide) (hts (.fieldLink RX1 23 "KeySums" "summer" "LKeySums$Summer;") (by decide +kernel)) (fun _ h9 => h9) rfl hin rfl (by decide +kernel) rfl rfl (Nat.le_of_ble_eq_true rfl) dX1_init_34 (fun H locs hP hD hS => ?_)
  have hP : va_P (dC, dI) vwCl [(h, .inr (1, [.ref qt, .int (nI 0), .ref qk, .ref qs, .null, .int 0])), (qt, .inl (cT, 2000, .inl (fun _ => 0))), (qk, .inl (cK, 16, .inl (fun _ => 0))), (qs, .inr (0, [.ref qw, .int (nI 0), .int 1732584193, .int (-271733879), .int (-1732584194), .int 271733878])), (qw, .inl (cW, 16, .inl (fun _ => 0)))] H := hP
  have hD : va_D A [(h, .inr (1, [.ref qt, .int (nI 0), .ref qk, .ref qs, .null, .int 0])), (qt, .inl (cT, 2000, .inl (fun _ => 0))), (qk, .inl (cK, 16, .inl (fun _ => 0))), (qs, .inr (0, [.ref qw, .int (nI 0), .int 1732584193, .int (-271733879), .int (-1732584194), .int 271733878])), (qw, .inl (cW, 16, .inl (fun _ => 0)))] := hD
  refine lv_aload_n hx hb dX1_init_37 rfl (lv_at hl 0 rfl) ?_
  refine lv_iconst (v := 4) hx hb dX1_init_38 (by decide) ?_
  refine va_newa (atype := .int) (ty := .int) (N' := 4) (a0 := (4, .inl (fun _ => 0))) hx hb (hts (.arrayClass .int) (by decide +kernel)) rfl hK hP hD hS hA (fun cA => rfl) (by decide +kernel) (by decide +kernel) (by decide +kernel) (Nat.le_of_ble_eq_true rfl) (Nat.le_of_ble_eq_true rfl) dX1_init_39 (fun qm cM H hK hP hD hS => ?_)
  have hP : va_P (dC, dI) vwCl [(h, .inr (1, [.ref qt, .int (nI 0), .ref qk, .ref qs, .null, .int 0])), (qt, .inl (cT, 2000, .inl (fun _ => 0))), (qk, .inl (cK, 16, .inl (fun _ => 0))), (qs, .inr (0, [.ref qw, .int (nI 0), .int 1732584193, .int (-271733879), .int (-1732584194), .int 271733878])), (qw, .inl (cW, 16, .inl (fun _ => 0))), (qm, .inl (cM, 4, .inl (fun _ => 0)))] H := hP
  have hD : va_D A [(h, .inr (1, [.ref qt, .int (nI 0), .ref qk, .ref qs, .null, .int 0])), (qt, .inl (cT, 2000, .inl (fun _ => 0))), (qk, .inl (cK, 16, .inl (fun _ => 0))), (qs, .inr (0, [.ref qw, .int (nI 0), .int 1732584193, .int (-271733879), .int (-1732584194), .int 271733878])), (qw, .inl (cW, 16, .inl (fun _ => 0))), (qm, .inl (cM, 4, .inl (fun _ => 0)))] := hD
  have hK : va_K (dC, dI) vwCl [(cT, .byte), (cK, .byte), (cW, .int), (cM, .int)] s := hK
  refine W.widen (k := 5) (n := 2042) (Nat.le_of_ble_eq_true rfl) (Nat.le_of_ble_eq_true rfl) ?_
  refine va_putF (D := (dC, dI)) (ci := 1) (v := .ref qm) (ty := .array .int) (C := RX1) (T := TX1) (N := 6) hx hb hts (by decide +kernel) tyX1 tyX1_ok nmX1 hown hK hP hD hS 0 rfl rfl 4 (by decide) (hts (.fieldLink RX1 27 "KeySums" "keptSum" "[I") (by decide +kernel)) (fun _ h9 => h9) rfl hin rfl (by decide +kernel) rfl rfl (Nat.le_of_ble_eq_true rfl) dX1_init_41 (fun H locs hP hD hS => ?_)
  have hP : va_P (dC, dI) vwCl [(h, .inr (1, [.ref qt, .int (nI 0), .ref qk, .ref qs, .ref qm, .int 0])), (qt, .inl (cT, 2000, .inl (fun _ => 0))), (qk, .inl (cK, 16, .inl (fun _ => 0))), (qs, .inr (0, [.ref qw, .int (nI 0), .int 1732584193, .int (-271733879), .int (-1732584194), .int 271733878])), (qw, .inl (cW, 16, .inl (fun _ => 0))), (qm, .inl (cM, 4, .inl (fun _ => 0)))] H := hP
  have hD : va_D A [(h, .inr (1, [.ref qt, .int (nI 0), .ref qk, .ref qs, .ref qm, .int 0])), (qt, .inl (cT, 2000, .inl (fun _ => 0))), (qk, .inl (cK, 16, .inl (fun _ => 0))), (qs, .inr (0, [.ref qw, .int (nI 0), .int 1732584193, .int (-271733879), .int (-1732584194), .int 271733878])), (qw, .inl (cW, 16, .inl (fun _ => 0))), (qm, .inl (cM, 4, .inl (fun _ => 0)))] := hD
  refine lv_aload_n hx hb dX1_init_44 rfl (lv_at hl 0 rfl) ?_
  refine lv_iconst (v := 0) hx hb dX1_init_45 (by decide) ?_
  refine va_put (D := (dC, dI)) (ci := 1) (v := .int 0) (ty := .boolean) (C := RX1) (T := TX1) (N := 6) hx hb hts (by decide +kernel) tyX1 tyX1_ok nmX1 hown hK hP hD hS 0 rfl rfl 5 (by decide) (hts (.fieldLink RX1 31 "KeySums" "hasSum" "Z") (by decide +kernel)) (fun _ h9 => h9) rfl (by decide +kernel) rfl rfl (Nat.le_of_ble_eq_true rfl) dX1_init_46 (fun H locs hP hD hS => ?_)
  have hP : va_P (dC, dI) vwCl [(h, .inr (1, [.ref qt, .int (nI 0), .ref qk, .ref qs, .ref qm, .int 0])), (qt, .inl (cT, 2000, .inl (fun _ => 0))), (qk, .inl (cK, 16, .inl (fun _ => 0))), (qs, .inr (0, [.ref qw, .int (nI 0), .int 1732584193, .int (-271733879), .int (-1732584194), .int 271733878])), (qw, .inl (cW, 16, .inl (fun _ => 0))), (qm, .inl (cM, 4, .inl (fun _ => 0)))] H := hP
  have hD : va_D A [(h, .inr (1, [.ref qt, .int (nI 0), .ref qk, .ref qs, .ref qm, .int 0])), (qt, .inl (cT, 2000, .inl (fun _ => 0))), (qk, .inl (cK, 16, .inl (fun _ => 0))), (qs, .inr (0, [.ref qw, .int (nI 0), .int 1732584193, .int (-271733879), .int (-1732584194), .int 271733878])), (qw, .inl (cW, 16, .inl (fun _ => 0))), (qm, .inl (cM, 4, .inl (fun _ => 0)))] := hD
  have hP9 := hP.sub (ws' := [(h, .inr (1, [.ref qt, .int (nI 0), .ref qk, .ref qs, .ref qm, .int 0])), (qt, .inl (cT, 2000, .inl (fun _ => 0))), (qk, .inl (cK, 16, .inl (fun _ => 0))), (qs, .inr (0, [.ref qw, .int (nI 0), .int 1732584193, .int (-271733879), .int (-1732584194), .int 271733878])), (qw, .inl (cW, 16, .inl (fun _ => 0))), (qm, .inl (cM, 4, .inl (fun _ => 0)))]) [0, 1, 2, 3, 4, 5] rfl
  have hD9 := hD.sub (ws' := [(h, .inr (1, [.ref qt, .int (nI 0), .ref qk, .ref qs, .ref qm, .int 0])), (qt, .inl (cT, 2000, .inl (fun _ => 0))), (qk, .inl (cK, 16, .inl (fun _ => 0))), (qs, .inr (0, [.ref qw, .int (nI 0), .int 1732584193, .int (-271733879), .int (-1732584194), .int 271733878])), (qw, .inl (cW, 16, .inl (fun _ => 0))), (qm, .inl (cM, 4, .inl (fun _ => 0)))]) [0, 1, 2, 3, 4, 5] (by decide) rfl
  have hK9 := hK.sub (tys' := [(cT, .byte), (cK, .byte), (cW, .int), (cM, .int)]) [0, 1, 2, 3] rfl
  exact W.vret hx hb hr (fun t ht hW => ⟨⟨(), rfl, trivial, qt, qk, qs, qw, qm, cT, cK, cW, cM, by rw [ht]; exact hP9, va_K.moved hW.alike hK9, hD9⟩, hS.F ht⟩) hS.2.2 dX1_init_49
end
section

theorem pf_lI {a : Nat} (h : a < 2 ^ 63) : (lN a).toInt = (a : Int) := lg_ofNat_toInt h
theorem pf_shr {a d : Nat} {D : Int64} (hD : (D.toBitVec.smod 64).toNat = d) (h : a < 2 ^ 62) : lN a >>> D = lN (a / 2 ^ d) := by
  have hd : a / 2 ^ d ≤ a := Nat.div_le_self _ _
  apply Int64.toInt_inj.mp
  have e : (lN a >>> D).toInt = (lN a).toInt >>> d := by
    rw [← hD]
    exact BitVec.toInt_sshiftRight ..
  rw [e, Int.shiftRight_eq_div_pow, pf_lI (by omega), pf_lI (by omega)]
  rfl
def ks_ssl (x : Int64) (y : Int32) : Int64 := x >>> (y.toInt64 &&& 63)
def ks_up (T : Nat → Int32) (k : Nat) : Nat → Int32 := fun j => if j < k then T j else 0
theorem ks_up_0 (T : Nat → Int32) : ks_up T 0 = fun _ => 0 := by
  funext j
  exact if_neg (Nat.not_lt_zero j)
theorem ks_up_s (T : Nat → Int32) (k : Nat) {x : Int32} (hx : x = T k) : upd (ks_up T k) k x = ks_up T (k + 1) := by
  funext j
  unfold upd ks_up
  by_cases c : j = k
  · subst c
    rw [if_pos rfl, if_pos (Nat.lt_succ_self j), hx]
  · rw [if_neg c]
    by_cases d : j < k
    · rw [if_pos d, if_pos (by omega)]
    · rw [if_neg d, if_neg (by omega)]
theorem ks_up_n {T : Nat → Int32} {k : Nat} (h : ∀ j, k ≤ j → T j = 0) : ks_up T k = T := by
  funext j
  unfold ks_up
  by_cases c : j < k
  · rw [if_pos c]
  · rw [if_neg c, h j (by omega)]
theorem ks_getD0 {l : List Int32} {k j : Nat} (hl : l.length = k) (h : k ≤ j) : l.getD j 0 = 0 := by
  rw [List.getD_eq_getElem?_getD, List.getElem?_eq_none (by omega)]
  rfl
def ks_tm (j : Nat) : Nat := [1, 5, 3, 7].getD j 0
def ks_mo (j : Nat) : Nat := [0, 1, 5, 0].getD j 0
def ks_tmI (j : Nat) : Int32 := nI (ks_tm j)
def ks_moI (j : Nat) : Int32 := nI (ks_mo j)
def ks_begI (j : Nat) : Int32 := ([1732584193, -271733879, -1732584194, 271733878] : List Int32).getD j 0
theorem ks_nat0 {l : List Nat} {k j : Nat} (hl : l.length = k) (h : k ≤ j) : nI (l.getD j 0) = 0 := by
  rw [List.getD_eq_getElem?_getD, List.getElem?_eq_none (by omega)]
  exact nI_0
theorem ks_gg {i : Nat} (hi : i < 64) : (ks_tm (i / 16) * i + ks_mo (i / 16)) % 16 = ks_g i := by
  unfold ks_g
  have hk : i / 16 < 4 := by omega
  generalize i / 16 = k at hk ⊢
  obtain rfl | rfl | rfl | rfl : k = 0 ∨ k = 1 ∨ k = 2 ∨ k = 3 := by omega
  · show (1 * i + 0) % 16 = i % 16
    omega
  · rfl
  · rfl
  · show (7 * i + 0) % 16 = 7 * i % 16
    omega
def ks_4 (f : Nat → Int32) : ks_Q := (f 0, f 1, f 2, f 3)
def ks_lw (bl : Nat → Int32) (k : Nat) : Int32 := ((bl (4 * k) ||| (bl (4 * k + 1) <<< ((8 : Int32) &&& 31))) ||| (bl (4 * k + 2) <<< ((16 : Int32) &&& 31))) ||| (bl (4 * k + 3) <<< ((24 : Int32) &&& 31))
theorem ks_w_bt (f : Nat → Int32) (b : Nat) {i : Nat} (hi : i < 32) : bt (ks_w f b) i = if i < 8 then bt (f b) i else if i < 16 then bt (f (b + 1)) (i - 8) else if i < 24 then bt (f (b + 2)) (i - 16) else bt (f (b + 3)) (i - 24) := by
  show bt (ks_push (ks_push (ks_push (ks_push 0 (f b)) (f (b + 1))) (f (b + 2))) (f (b + 3))) i = _
  rw [ks_push_bt _ _ hi]
  by_cases c1 : i < 24
  · rw [if_pos c1, ks_push_bt _ _ (show 8 + i < 32 by omega)]
    by_cases c2 : 8 + i < 24
    · rw [if_pos c2, ks_push_bt _ _ (show 8 + (8 + i) < 32 by omega)]
      by_cases c3 : 8 + (8 + i) < 24
      · rw [if_pos c3, ks_push_bt _ _ (show 8 + (8 + (8 + i)) < 32 by omega), if_neg (by omega), if_pos (show i < 8 by omega), show 8 + (8 + (8 + i)) - 24 = i by omega]
      · rw [if_neg c3, if_neg (show ¬ i < 8 by omega), if_pos (show i < 16 by omega), show 8 + (8 + i) - 24 = i - 8 by omega]
    · rw [if_neg c2, if_neg (show ¬ i < 8 by omega), if_neg (show ¬ i < 16 by omega), if_pos c1, show 8 + i - 24 = i - 16 by omega]
  · rw [if_neg c1, if_neg (show ¬ i < 8 by omega), if_neg (show ¬ i < 16 by omega), if_neg c1]
theorem rf_word {bl f : Nat → Int32} {k b : Nat} (h : ∀ j, j < 4 → bl (4 * k + j) = f (b + j) &&& 255) : ks_lw bl k = ks_w f b := by
  apply b_ext
  intro i hi
  have h0 : bl (4 * k) = f b &&& 255 := h 0 (by decide)
  have h1 := h 1 (by decide)
  have h2 := h 2 (by decide)
  have h3 := h 3 (by decide)
  unfold ks_lw
  rw [b_or, b_or, b_or, b_shl8 _ hi, b_shl16 _ hi, b_shl24 _ hi, h0, h1, h2, h3, b_and, b_and, b_and, b_and, b_255, b_255, b_255, b_255, ks_w_bt f b hi]
  rcases (show i < 8 ∨ (8 ≤ i ∧ i < 16) ∨ (16 ≤ i ∧ i < 24) ∨ 24 ≤ i by omega) with c | ⟨c, d⟩ | ⟨c, d⟩ | c
  · rw [if_pos c, decide_eq_true c, decide_eq_false (show ¬ 8 ≤ i by omega), decide_eq_false (show ¬ 16 ≤ i by omega), decide_eq_false (show ¬ 24 ≤ i by omega)]
    simp
  · rw [if_neg (by omega), if_pos d, decide_eq_false (show ¬ i < 8 by omega), decide_eq_true (show 8 ≤ i by omega), decide_eq_true (show i - 8 < 8 by omega), decide_eq_false (show ¬ 16 ≤ i by omega), decide_eq_false (show ¬ 24 ≤ i by omega)]
    simp
  · rw [if_neg (by omega), if_neg (by omega), if_pos d, decide_eq_false (show ¬ i < 8 by omega), decide_eq_true (show 8 ≤ i by omega), decide_eq_false (show ¬ i - 8 < 8 by omega), decide_eq_true (show 16 ≤ i by omega), decide_eq_true (show i - 16 < 8 by omega), decide_eq_false (show ¬ 24 ≤ i by omega)]
    simp
  · rw [if_neg (by omega), if_neg (by omega), if_neg (by omega), decide_eq_false (show ¬ i < 8 by omega), decide_eq_true (show 8 ≤ i by omega), decide_eq_false (show ¬ i - 8 < 8 by omega), decide_eq_true (show 16 ≤ i by omega), decide_eq_false (show ¬ i - 16 < 8 by omega), decide_eq_true (show 24 ≤ i by omega), decide_eq_true (show i - 24 < 8 by omega)]
    simp
/-- the block and the four numbers behind n bytes, as the check keeps them -/
def rf_inv (f : Nat → Int32) (n : Nat) (bl fr : Nat → Int32) : Prop := ks_4 fr = ks_ch f (n / 64) ∧ ∀ j, j < n % 64 → bl j = f (64 * (n / 64) + j) &&& 255
theorem rf_inv_0 {fr : Nat → Int32} (f bl : Nat → Int32) (h : ∀ j, j < 4 → fr j = ks_begI j) : rf_inv f 0 bl fr := by
  refine ⟨?_, fun j hj => absurd hj (by omega)⟩
  unfold ks_4
  rw [h 0 (by decide), h 1 (by decide), h 2 (by decide), h 3 (by decide)]
  rfl
theorem rf_inv_8 {f k : Nat → Int32} {n : Nat} {bl fr : Nat → Int32} (h : rf_inv f n bl fr) (e : ∀ j, j < n → f j &&& 255 = k j &&& 255) : rf_inv k n bl fr := by
  refine ⟨?_, fun j hj => ?_⟩
  · rw [h.1]
    exact ks_ch_8 _ (fun j hj => e j (by omega))
  · rw [h.2 j hj]
    exact e _ (by omega)
theorem rf_put {f : Nat → Int32} {n : Nat} {bl fr : Nat → Int32} {x : Int32} (h : rf_inv f n bl fr) (hx : f n &&& 255 = x &&& 255) (hl : (n + 1) % 64 ≠ 0) : rf_inv f (n + 1) (upd bl (n % 64) (x &&& 255)) fr := by
  have a1 : (n + 1) / 64 = n / 64 := by omega
  refine ⟨by rw [a1]; exact h.1, fun j hj => ?_⟩
  rw [a1]
  by_cases c : j = n % 64
  · subst c
    rw [pk_us, ← hx, show 64 * (n / 64) + n % 64 = n by omega]
  · rw [pk_un c]
    exact h.2 j (by omega)
theorem rf_full {f : Nat → Int32} {n : Nat} {bl fr fr2 : Nat → Int32} {x : Int32} (h : rf_inv f n bl fr) (hx : f n &&& 255 = x &&& 255) (hl : (n + 1) % 64 = 0) (e : ks_4 fr2 = ks_mix (ks_lw (upd bl (n % 64) (x &&& 255))) (ks_4 fr)) : rf_inv f (n + 1) (upd bl (n % 64) (x &&& 255)) fr2 := by
  have a1 : (n + 1) / 64 = n / 64 + 1 := by omega
  refine ⟨?_, fun j hj => absurd hj (by omega)⟩
  rw [e, h.1, a1]
  refine ks_mix_congr (fun j hj => ?_) _
  apply rf_word
  intro i hi
  by_cases c : 4 * j + i = n % 64
  · rw [c, pk_us, ← hx, show 64 * (n / 64) + 4 * j + i = n by omega]
  · rw [pk_un c, h.2 _ (by omega), show 64 * (n / 64) + (4 * j + i) = 64 * (n / 64) + 4 * j + i by omega]
theorem ks_255 (x : Int32) : x &&& 255 &&& 255 = x &&& 255 := by
  apply b_ext
  intro i hi
  rw [b_and, b_and, b_255]
  cases bt x i <;> cases decide (i < 8) <;> rfl
theorem rf_len8 (f : Nat → Int32) {n i : Nat} (hn : 8 * n < 2 ^ 62) (hi : i < 8) : ks_pad f n (ks_end n + i) &&& 255 = ((ks_ssl (lN (8 * n)) (nI (8 * i))).toInt32 &&& 255) &&& 255 := by
  have h2 : ks_ssl (lN (8 * n)) (nI (8 * i)) = ks_usl (lN (8 * n)) (nI (8 * i)) := by
    have h3 := wb_shr (n := 8 * n) (k := 8 * i) (by omega) (by omega)
    have h4 := pf_shr (a := 8 * n) (d := 8 * i) (D := (nI (8 * i)).toInt64 &&& 63) (by rw [wb_c _ (by omega), wb_tb, wb_sm _ (by omega), BitVec.toNat_ofNat, Nat.mod_eq_of_lt (by omega)]) hn
    exact h4.trans h3.symm
  rw [ks_255, h2]
  exact ks_len8 f hn hi
/-- a byte of a number, by either shift -/
theorem rf_shift (x : Int32) {k : Nat} (hk : k < 4) : (x >>> (nI (8 * k) &&& 31)) &&& 255 = ks_us x (nI (8 * k)) &&& 255 := by
  apply b_ext
  intro i hi
  rw [b_and, b_and, b_255, b_sshr (8 * k) (by omega) x hi]
  have e : bt (ks_us x (nI (8 * k))) i = bt x (8 * k + i) := b_ushr (8 * k) (by omega) x i
  rw [e]
  by_cases c : i < 8
  · rw [if_pos (by omega)]
  · rw [decide_eq_false c]
    simp
section KR
variable {p : Program} {l : Launch} {e : Env} {R : Room} {s : State} {m : MethodId} {args : Array Value} {below : List Frame} {meth : Method} {c : Code} {H : Heap} {locs : List Loc} {cells slots : Nat} {Q : State → Prop}
variable {cc : ByteArray} {pc : Nat} {ls : Array Slot} {rest : List Value} {D : va_G} {cl : List vw_C} {A : Nat → Prop} {a : Nat} {tys : List (ClassId × FieldType)} {ws : va_W} {H0 : Heap}
theorem kz_astK {j : Nat} {x : Int32} {T : Nat → Int32} (hexec : p.tables.exec = Jvm.exec) (hb : c.code = cc) (hK : va_K D cl tys s) (hP : va_P D cl ws H) (hD : va_D A ws) (hS : va_S A H0 H locs) (q0 t0 : Nat) {cA : ClassId} {n : Nat} (ha : ws[q0]? = some (a, .inl (cA, n, .inl (ks_up T j)))) (ht : tys[t0]? = some (cA, .int)) (hj : j < n) (hn : n < 2 ^ 31) (hx : x = T j) (hdg : decode cc pc = .ok (.iastore, 1))
    (kk : ∀ (H1 : Heap) (locs1 : List Loc), va_P D cl (ws.set q0 (a, .inl (cA, n, .inl (ks_up T (j + 1))))) H1 → va_D A (ws.set q0 (a, .inl (cA, n, .inl (ks_up T (j + 1))))) → va_S A H0 H1 locs1 → W p l e R s m args below meth c H1 locs1 cells slots Q (F0 m (pc + 1) ls rest)) : W p l e R s m args below meth c H locs cells slots Q (F0 m pc ls (.int x :: .int (nI j) :: .ref a :: rest)) :=
  kz_iast hexec hb hK hP hD hS q0 t0 ha ht hj hn hdg (by rw [ks_up_s T j hx]; exact kk)
end KR
end
section
set_option maxHeartbeats 4000000 in
set_option maxRecDepth 100000 in
/-- anew -/
theorem r_anew (l : Launch) (dC : Nat → ClassId) (dI : Nat → Nat → Nat) (sz : Nat) (h ac au ab ae am ap ak al af an ar : Nat) (cJ : ClassId) (sz0 mm sm : Int32) (fb fr : Nat → Int32) : Met l yX2_anew wsX2_anew ({ frames := 0, cells := 0, slots := 0, locals := 0 }) (va_Pc [.ref h] (fun U => U.heap.size = sz ∧ va_P (dC, dI) vwCl [(h, .inr (2, [.ref ac, .ref au, .ref ab, .ref ae, .ref am, .ref ap, .int sz0, .ref ak, .ref al, .ref af, .ref an, .int mm, .ref ar, .int sm])), (ab, .inl (cJ, 4, .inl fb)), (af, .inl (cJ, 4, .inl fr))] U.heap ∧ va_K (dC, dI) vwCl [(cJ, .int)] U ∧ va_D (fun _ => True) [(h, .inr (2, [.ref ac, .ref au, .ref ab, .ref ae, .ref am, .ref ap, .int sz0, .ref ak, .ref al, .ref af, .ref an, .int mm, .ref ar, .int sm])), (ab, .inl (cJ, 4, .inl fb)), (af, .inl (cJ, 4, .inl fr))])) (va_Qv (fun u : Nat → Int32 => ∀ j, j < 4 → u j = fb j) (fun (u : Nat → Int32) t => kz_B dC dI [(cJ, .int)] (va_A [(h, .inr (2, [.ref ac, .ref au, .ref ab, .ref ae, .ref am, .ref ap, .int sz0, .ref ak, .ref al, .ref af, .ref an, .int mm, .ref ar, .int sm])), (ab, .inl (cJ, 4, .inl fb)), (af, .inl (cJ, 4, .inl fr))] sz) [(h, .inr (2, [.ref ac, .ref au, .ref ab, .ref ae, .ref am, .ref ap, .int sz0, .ref ak, .ref al, .ref af, .ref an, .int (nI 0), .ref ar, .int sm])), (ab, .inl (cJ, 4, .inl fb)), (af, .inl (cJ, 4, .inl u))] t) (va_A [(h, .inr (2, [.ref ac, .ref au, .ref ab, .ref ae, .ref am, .ref ap, .int sz0, .ref ak, .ref al, .ref af, .ref an, .int mm, .ref ar, .int sm])), (ab, .inl (cJ, 4, .inl fb)), (af, .inl (cJ, 4, .inl fr))] sz)) 0 0 (va_A [(h, .inr (2, [.ref ac, .ref au, .ref ab, .ref ae, .ref am, .ref ap, .int sz0, .ref ak, .ref al, .ref af, .ref an, .int mm, .ref ar, .int sm])), (ab, .inl (cJ, 4, .inl fb)), (af, .inl (cJ, 4, .inl fr))] sz) := by
  refine Met.ofW (cc := cX2_anew) (maxL := 2) (ret := none) (by decide) rfl ?_
  intro p e s m args below meth c s₁ B hml hv
  obtain ⟨rfl, hsz, hP, hK, hD0⟩ := hv
  have hx := B.exec
  have hb := B.bytes
  have hr := B.returns
  have hts := atoms_spec (ws := wsX2_anew) B.pre
  have hown : s.vm.findClass RX2 = some m.cls := findClass_of_methodNamed B.named
  have hlocks := B.notSynchronized
  subst hsz
  have hD := hD0.self (sz := s.heap.size)
  generalize hAe : va_A [(h, .inr (2, [.ref ac, .ref au, .ref ab, .ref ae, .ref am, .ref ap, .int sz0, .ref ak, .ref al, .ref af, .ref an, .int mm, .ref ar, .int sm])), (ab, .inl (cJ, 4, .inl fb)), (af, .inl (cJ, 4, .inl fr))] s.heap.size = A at hD  ⊢
  have hA : ∀ q : Nat, s.heap.size ≤ q → A q := fun q h => by rw [← hAe]; exact Or.inr h
  have hS : va_S A s.heap s.heap [] := va_S.rf
  have hP : va_P (dC, dI) vwCl [(h, .inr (2, [.ref ac, .ref au, .ref ab, .ref ae, .ref am, .ref ap, .int sz0, .ref ak, .ref al, .ref af, .ref an, .int mm, .ref ar, .int sm])), (ab, .inl (cJ, 4, .inl fb)), (af, .inl (cJ, 4, .inl fr))] s.heap := hP
  have hl := lv_entry ([.ref h]) (n := 2) (Nat.le_of_ble_eq_true rfl)
  rw [lg_entry_eq]
  generalize (lg_sl ([.ref h]) ++ List.replicate (2 - (lg_sl ([.ref h])).length) Slot.unset).toArray = ls at hl ⊢
  have hl : lv_has ls 2 [(0, .ref h)] := hl
  refine lv_aload_n hx hb dX2_anew_0 rfl (lv_at hl 0 rfl) ?_
  refine lv_iconst (v := 0) hx hb dX2_anew_1 (by decide) ?_
  refine kz_top (y := nI 0) nI_0.symm ?_
  refine va_put (D := (dC, dI)) (ci := 2) (v := .int (nI 0)) (ty := .int) (C := RX2) (T := TX2) (N := 14) hx hb hts (by decide +kernel) tyX2 tyX2_ok nmX2 hown hK hP hD hS 0 rfl rfl 11 (by decide) (hts (.fieldLink RX2 114 "KeySumsModel" "many" "I") (by decide +kernel)) (fun _ h9 => h9) rfl (by decide +kernel) rfl rfl (Nat.le_of_ble_eq_true rfl) dX2_anew_2 (fun H locs hP hD hS => ?_)
  have hP : va_P (dC, dI) vwCl [(h, .inr (2, [.ref ac, .ref au, .ref ab, .ref ae, .ref am, .ref ap, .int sz0, .ref ak, .ref al, .ref af, .ref an, .int (nI 0), .ref ar, .int sm])), (ab, .inl (cJ, 4, .inl fb)), (af, .inl (cJ, 4, .inl fr))] H := hP
  have hD : va_D A [(h, .inr (2, [.ref ac, .ref au, .ref ab, .ref ae, .ref am, .ref ap, .int sz0, .ref ak, .ref al, .ref af, .ref an, .int (nI 0), .ref ar, .int sm])), (ab, .inl (cJ, 4, .inl fb)), (af, .inl (cJ, 4, .inl fr))] := hD
  refine lv_iconst (v := 0) hx hb dX2_anew_5 (by decide) ?_
  refine kz_top (y := nI 0) nI_0.symm ?_
  refine lv_istore_n (lv' := [(1, .int (nI 0)), (0, .ref h)]) hx hb dX2_anew_6 rfl hl (by decide) rfl (fun ls hl => ?_)
  refine kz_loop (σ := Nat → Int32) (fun i x ls H locs => (∀ j, j < i → x j = fb j) ∧ lv_has ls 2 [(1, .int (nI i)), (0, .ref h)] ∧ va_P (dC, dI) vwCl [(h, .inr (2, [.ref ac, .ref au, .ref ab, .ref ae, .ref am, .ref ap, .int sz0, .ref ak, .ref al, .ref af, .ref an, .int (nI 0), .ref ar, .int sm])), (ab, .inl (cJ, 4, .inl fb)), (af, .inl (cJ, 4, .inl x))] H ∧ va_D A [(h, .inr (2, [.ref ac, .ref au, .ref ab, .ref ae, .ref am, .ref ap, .int sz0, .ref ak, .ref al, .ref af, .ref an, .int (nI 0), .ref ar, .int sm])), (ab, .inl (cJ, 4, .inl fb)), (af, .inl (cJ, 4, .inl x))] ∧ va_S A s.heap H locs) 4 ?_ ?_ 0 fr ls _ _ (Nat.zero_le _) ⟨fun j hj => absurd hj (Nat.not_lt_zero j), hl, hP, hD, hS⟩
  · skip
    intro i x ls H locs hlt hI ih
    obtain ⟨hv, hl, hP, hD, hS⟩ := hI
    refine lv_iload_n hx hb dX2_anew_7 rfl (lv_at hl 0 rfl) ?_
    refine lv_iconst (v := 4) hx hb dX2_anew_8 (by decide) ?_
    refine lv_icmp_ge (tgt := 30) hx hb dX2_anew_9 (by decide) (fun hc => ?_) (fun hc => ?_)
    · skip
      exact absurd hc (nI_ge (a := i) (b := 4) hlt (by decide))
    · skip
      refine lv_aload_n hx hb dX2_anew_12 rfl (lv_at hl 1 rfl) ?_
      refine va_get (D := (dC, dI)) (ci := 2) (v := .ref af) (C := RX2) (T := TX2) (N := 14) hx hb hts (by decide +kernel) hown hK hP 0 rfl rfl 9 (by decide) (hts (.fieldLink RX2 102 "KeySumsModel" "four" "[I") (by decide +kernel)) (fun _ h9 => h9) rfl dX2_anew_13 ?_
      refine lv_iload_n hx hb dX2_anew_16 rfl (lv_at hl 0 rfl) ?_
      refine lv_aload_n hx hb dX2_anew_17 rfl (lv_at hl 1 rfl) ?_
      refine va_get (D := (dC, dI)) (ci := 2) (v := .ref ab) (C := RX2) (T := TX2) (N := 14) hx hb hts (by decide +kernel) hown hK hP 0 rfl rfl 2 (by decide) (hts (.fieldLink RX2 84 "KeySumsModel" "begin" "[I") (by decide +kernel)) (fun _ h9 => h9) rfl dX2_anew_18 ?_
      refine lv_iload_n hx hb dX2_anew_21 rfl (lv_at hl 0 rfl) ?_
      refine kz_iald (j := i) hx hb hK hP 1 0 rfl rfl (hlt) (by decide) dX2_anew_22 ?_
      refine kz_iast (j := i) hx hb hK hP hD hS 2 0 rfl rfl (hlt) (by decide) dX2_anew_23 (fun H locs hP hD hS => ?_)
      have hP : va_P (dC, dI) vwCl [(h, .inr (2, [.ref ac, .ref au, .ref ab, .ref ae, .ref am, .ref ap, .int sz0, .ref ak, .ref al, .ref af, .ref an, .int (nI 0), .ref ar, .int sm])), (ab, .inl (cJ, 4, .inl fb)), (af, .inl (cJ, 4, .inl (upd x i (fb i))))] H := hP
      have hD : va_D A [(h, .inr (2, [.ref ac, .ref au, .ref ab, .ref ae, .ref am, .ref ap, .int sz0, .ref ak, .ref al, .ref af, .ref an, .int (nI 0), .ref ar, .int sm])), (ab, .inl (cJ, 4, .inl fb)), (af, .inl (cJ, 4, .inl (upd x i (fb i))))] := hD
      refine lv_iinc (v := nI (i + 1)) (lv' := [(1, .int (nI (i + 1))), (0, .ref h)]) hx hb dX2_anew_24 hl (k := 0) rfl (nI_1 i) (by decide) rfl (fun ls hl => ?_)
      refine lv_goto (tgt := 7) hx hb dX2_anew_27 (by decide) ?_
      refine ih _ ls H locs ⟨?_, lv_sub hl [0, 1] rfl, hP, hD, hS⟩
      intro j hj
      by_cases q : j = i
      · subst q; rw [pk_us]
      · rw [pk_un q]; exact hv j (by omega)
  · skip
    intro x ls H locs hI
    obtain ⟨hv, hl, hP, hD, hS⟩ := hI
    refine lv_iload_n hx hb dX2_anew_7 rfl (lv_at hl 0 rfl) ?_
    refine lv_iconst (v := 4) hx hb dX2_anew_8 (by decide) ?_
    refine lv_icmp_ge (tgt := 30) hx hb dX2_anew_9 (by decide) (fun hc => ?_) (fun hc => ?_)
    · skip
      have hP9 := hP.sub (ws' := [(h, .inr (2, [.ref ac, .ref au, .ref ab, .ref ae, .ref am, .ref ap, .int sz0, .ref ak, .ref al, .ref af, .ref an, .int (nI 0), .ref ar, .int sm])), (ab, .inl (cJ, 4, .inl fb)), (af, .inl (cJ, 4, .inl x))]) [0, 1, 2] rfl
      have hD9 := hD.sub (ws' := [(h, .inr (2, [.ref ac, .ref au, .ref ab, .ref ae, .ref am, .ref ap, .int sz0, .ref ak, .ref al, .ref af, .ref an, .int (nI 0), .ref ar, .int sm])), (ab, .inl (cJ, 4, .inl fb)), (af, .inl (cJ, 4, .inl x))]) [0, 1, 2] (by decide) rfl
      have hK9 := hK.sub (tys' := [(cJ, .int)]) [0] rfl
      exact W.vret hx hb hr (fun t ht hW => ⟨⟨x, rfl, hv, by rw [ht]; exact hP9, va_K.moved hW.alike hK9, hD9⟩, hS.F ht⟩) hS.2.2 dX2_anew_30
    · skip
      exact absurd (nI_le (a := 4) (b := 4) (Nat.le_refl _) (by decide)) hc

/-- four bytes, the highest first, as the check lays them -/
def ks_ly (ft : Nat → Int32) (k : Nat) (x : Int32) : Nat → Int32 := upd (upd (upd (upd ft k ((x >>> ((24 : Int32) &&& 31)) &&& 255)) (k + 1) ((x >>> ((16 : Int32) &&& 31)) &&& 255)) (k + 2) ((x >>> ((8 : Int32) &&& 31)) &&& 255)) (k + 3) ((x >>> ((0 : Int32) &&& 31)) &&& 255)

set_option maxHeartbeats 4000000 in
set_option maxRecDepth 100000 in
/-- lay -/
theorem r_lay (l : Launch) (dC : Nat → ClassId) (dI : Nat → Nat → Nat) (sz : Nat) (h ac au ab ae am ap ak al af an ar : Nat) (cJ : ClassId) (n : Nat) (mm sm : Int32) (ft : Nat → Int32) (x : Int32) (hn : n + 4 ≤ 2000) : Met l yX2_lay wsX2_lay ({ frames := 0, cells := 0, slots := 0, locals := 0 }) (va_Pc [.ref h, .int x] (fun U => U.heap.size = sz ∧ va_P (dC, dI) vwCl [(h, .inr (2, [.ref ac, .ref au, .ref ab, .ref ae, .ref am, .ref ap, .int (nI n), .ref ak, .ref al, .ref af, .ref an, .int mm, .ref ar, .int sm])), (ap, .inl (cJ, 2000, .inl ft))] U.heap ∧ va_K (dC, dI) vwCl [(cJ, .int)] U ∧ va_D (fun _ => True) [(h, .inr (2, [.ref ac, .ref au, .ref ab, .ref ae, .ref am, .ref ap, .int (nI n), .ref ak, .ref al, .ref af, .ref an, .int mm, .ref ar, .int sm])), (ap, .inl (cJ, 2000, .inl ft))])) (va_Qv (fun _u : Unit => True) (fun (_u : Unit) t => kz_B dC dI [(cJ, .int)] (va_A [(h, .inr (2, [.ref ac, .ref au, .ref ab, .ref ae, .ref am, .ref ap, .int (nI n), .ref ak, .ref al, .ref af, .ref an, .int mm, .ref ar, .int sm])), (ap, .inl (cJ, 2000, .inl ft))] sz) [(h, .inr (2, [.ref ac, .ref au, .ref ab, .ref ae, .ref am, .ref ap, .int (nI (n + 4)), .ref ak, .ref al, .ref af, .ref an, .int mm, .ref ar, .int sm])), (ap, .inl (cJ, 2000, .inl (ks_ly ft n x)))] t) (va_A [(h, .inr (2, [.ref ac, .ref au, .ref ab, .ref ae, .ref am, .ref ap, .int (nI n), .ref ak, .ref al, .ref af, .ref an, .int mm, .ref ar, .int sm])), (ap, .inl (cJ, 2000, .inl ft))] sz)) 0 0 (va_A [(h, .inr (2, [.ref ac, .ref au, .ref ab, .ref ae, .ref am, .ref ap, .int (nI n), .ref ak, .ref al, .ref af, .ref an, .int mm, .ref ar, .int sm])), (ap, .inl (cJ, 2000, .inl ft))] sz) := by
  refine Met.ofW (cc := cX2_lay) (maxL := 3) (ret := none) (by decide) rfl ?_
  intro p e s m args below meth c s₁ B hml hv
  obtain ⟨rfl, hsz, hP, hK, hD0⟩ := hv
  have hx := B.exec
  have hb := B.bytes
  have hr := B.returns
  have hts := atoms_spec (ws := wsX2_lay) B.pre
  have hown : s.vm.findClass RX2 = some m.cls := findClass_of_methodNamed B.named
  have hlocks := B.notSynchronized
  subst hsz
  have hD := hD0.self (sz := s.heap.size)
  generalize hAe : va_A [(h, .inr (2, [.ref ac, .ref au, .ref ab, .ref ae, .ref am, .ref ap, .int (nI n), .ref ak, .ref al, .ref af, .ref an, .int mm, .ref ar, .int sm])), (ap, .inl (cJ, 2000, .inl ft))] s.heap.size = A at hD  ⊢
  have hA : ∀ q : Nat, s.heap.size ≤ q → A q := fun q h => by rw [← hAe]; exact Or.inr h
  have hS : va_S A s.heap s.heap [] := va_S.rf
  have hP : va_P (dC, dI) vwCl [(h, .inr (2, [.ref ac, .ref au, .ref ab, .ref ae, .ref am, .ref ap, .int (nI n), .ref ak, .ref al, .ref af, .ref an, .int mm, .ref ar, .int sm])), (ap, .inl (cJ, 2000, .inl ft))] s.heap := hP
  have hl := lv_entry ([.ref h, .int x]) (n := 3) (Nat.le_of_ble_eq_true rfl)
  rw [lg_entry_eq]
  generalize (lg_sl ([.ref h, .int x]) ++ List.replicate (3 - (lg_sl ([.ref h, .int x])).length) Slot.unset).toArray = ls at hl ⊢
  have hl : lv_has ls 3 [(0, .ref h), (1, .int x)] := hl
  refine lv_bipush (v := 24) hx hb dX2_lay_0 (by decide) ?_
  refine lv_istore_n (lv' := [(2, .int 24), (0, .ref h), (1, .int x)]) hx hb dX2_lay_2 rfl hl (by decide) rfl (fun ls hl => ?_)
  refine lv_iload_n hx hb dX2_lay_3 rfl (lv_at hl 0 rfl) ?_
  refine lv_if_lt (tgt := 39) hx hb dX2_lay_4 (by decide) (fun hc => ?_) (fun hc => ?_)
  · skip
    exact absurd hc (by decide)
  · skip
    refine lv_aload_n hx hb dX2_lay_7 rfl (lv_at hl 1 rfl) ?_
    refine va_get (D := (dC, dI)) (ci := 2) (v := .ref ap) (C := RX2) (T := TX2) (N := 14) hx hb hts (by decide +kernel) hown hK hP 0 rfl rfl 5 (by decide) (hts (.fieldLink RX2 93 "KeySumsModel" "tape" "[I") (by decide +kernel)) (fun _ h9 => h9) rfl dX2_lay_8 ?_
    refine lv_aload_n hx hb dX2_lay_11 rfl (lv_at hl 1 rfl) ?_
    refine va_get (D := (dC, dI)) (ci := 2) (v := .int (nI n)) (C := RX2) (T := TX2) (N := 14) hx hb hts (by decide +kernel) hown hK hP 0 rfl rfl 6 (by decide) (hts (.fieldLink RX2 118 "KeySumsModel" "size" "I") (by decide +kernel)) (fun _ h9 => h9) rfl dX2_lay_12 ?_
    refine lv_iload_n hx hb dX2_lay_15 rfl (lv_at hl 2 rfl) ?_
    refine lv_iload_n hx hb dX2_lay_16 rfl (lv_at hl 0 rfl) ?_
    refine lv_ishr hx hb dX2_lay_17 ?_
    refine lv_sipush (v := 255) hx hb dX2_lay_18 (by decide) ?_
    refine lv_iand hx hb dX2_lay_21 ?_
    refine kz_iast (j := n) hx hb hK hP hD hS 1 0 rfl rfl (show n < 2000 by omega) (by decide) dX2_lay_22 (fun H locs hP hD hS => ?_)
    have hP : va_P (dC, dI) vwCl [(h, .inr (2, [.ref ac, .ref au, .ref ab, .ref ae, .ref am, .ref ap, .int (nI n), .ref ak, .ref al, .ref af, .ref an, .int mm, .ref ar, .int sm])), (ap, .inl (cJ, 2000, .inl (upd ft n ((x >>> (24 &&& 31)) &&& 255))))] H := hP
    have hD : va_D A [(h, .inr (2, [.ref ac, .ref au, .ref ab, .ref ae, .ref am, .ref ap, .int (nI n), .ref ak, .ref al, .ref af, .ref an, .int mm, .ref ar, .int sm])), (ap, .inl (cJ, 2000, .inl (upd ft n ((x >>> (24 &&& 31)) &&& 255))))] := hD
    refine lv_aload_n hx hb dX2_lay_23 rfl (lv_at hl 1 rfl) ?_
    refine lv_dup hx hb dX2_lay_24 rfl ?_
    refine va_get (D := (dC, dI)) (ci := 2) (v := .int (nI n)) (C := RX2) (T := TX2) (N := 14) hx hb hts (by decide +kernel) hown hK hP 0 rfl rfl 6 (by decide) (hts (.fieldLink RX2 118 "KeySumsModel" "size" "I") (by decide +kernel)) (fun _ h9 => h9) rfl dX2_lay_25 ?_
    refine lv_iconst (v := 1) hx hb dX2_lay_28 (by decide) ?_
    refine lv_iadd hx hb dX2_lay_29 ?_
    refine kz_top (y := nI (n + 1)) (nI_add n 1) ?_
    refine va_put (D := (dC, dI)) (ci := 2) (v := .int (nI (n + 1))) (ty := .int) (C := RX2) (T := TX2) (N := 14) hx hb hts (by decide +kernel) tyX2 tyX2_ok nmX2 hown hK hP hD hS 0 rfl rfl 6 (by decide) (hts (.fieldLink RX2 118 "KeySumsModel" "size" "I") (by decide +kernel)) (fun _ h9 => h9) rfl (by decide +kernel) rfl rfl (Nat.le_of_ble_eq_true rfl) dX2_lay_30 (fun H locs hP hD hS => ?_)
    have hP : va_P (dC, dI) vwCl [(h, .inr (2, [.ref ac, .ref au, .ref ab, .ref ae, .ref am, .ref ap, .int (nI (n + 1)), .ref ak, .ref al, .ref af, .ref an, .int mm, .ref ar, .int sm])), (ap, .inl (cJ, 2000, .inl (upd ft n ((x >>> (24 &&& 31)) &&& 255))))] H := hP
    have hD : va_D A [(h, .inr (2, [.ref ac, .ref au, .ref ab, .ref ae, .ref am, .ref ap, .int (nI (n + 1)), .ref ak, .ref al, .ref af, .ref an, .int mm, .ref ar, .int sm])), (ap, .inl (cJ, 2000, .inl (upd ft n ((x >>> (24 &&& 31)) &&& 255))))] := hD
    refine lv_iinc (v := 16) (lv' := [(2, .int 16), (0, .ref h), (1, .int x)]) hx hb dX2_lay_33 hl (k := 0) rfl (by decide) (by decide) rfl (fun ls hl => ?_)
    refine lv_goto (tgt := 3) hx hb dX2_lay_36 (by decide) ?_
    refine lv_iload_n hx hb dX2_lay_3 rfl (lv_at hl 0 rfl) ?_
    refine lv_if_lt (tgt := 39) hx hb dX2_lay_4 (by decide) (fun hc => ?_) (fun hc => ?_)
    · skip
      exact absurd hc (by decide)
    · skip
      refine lv_aload_n hx hb dX2_lay_7 rfl (lv_at hl 1 rfl) ?_
      refine va_get (D := (dC, dI)) (ci := 2) (v := .ref ap) (C := RX2) (T := TX2) (N := 14) hx hb hts (by decide +kernel) hown hK hP 0 rfl rfl 5 (by decide) (hts (.fieldLink RX2 93 "KeySumsModel" "tape" "[I") (by decide +kernel)) (fun _ h9 => h9) rfl dX2_lay_8 ?_
      refine lv_aload_n hx hb dX2_lay_11 rfl (lv_at hl 1 rfl) ?_
      refine va_get (D := (dC, dI)) (ci := 2) (v := .int (nI (n + 1))) (C := RX2) (T := TX2) (N := 14) hx hb hts (by decide +kernel) hown hK hP 0 rfl rfl 6 (by decide) (hts (.fieldLink RX2 118 "KeySumsModel" "size" "I") (by decide +kernel)) (fun _ h9 => h9) rfl dX2_lay_12 ?_
      refine lv_iload_n hx hb dX2_lay_15 rfl (lv_at hl 2 rfl) ?_
      refine lv_iload_n hx hb dX2_lay_16 rfl (lv_at hl 0 rfl) ?_
      refine lv_ishr hx hb dX2_lay_17 ?_
      refine lv_sipush (v := 255) hx hb dX2_lay_18 (by decide) ?_
      refine lv_iand hx hb dX2_lay_21 ?_
      refine kz_iast (j := (n + 1)) hx hb hK hP hD hS 1 0 rfl rfl (show (n + 1) < 2000 by omega) (by decide) dX2_lay_22 (fun H locs hP hD hS => ?_)
      have hP : va_P (dC, dI) vwCl [(h, .inr (2, [.ref ac, .ref au, .ref ab, .ref ae, .ref am, .ref ap, .int (nI (n + 1)), .ref ak, .ref al, .ref af, .ref an, .int mm, .ref ar, .int sm])), (ap, .inl (cJ, 2000, .inl (upd (upd ft n ((x >>> (24 &&& 31)) &&& 255)) (n + 1) ((x >>> (16 &&& 31)) &&& 255))))] H := hP
      have hD : va_D A [(h, .inr (2, [.ref ac, .ref au, .ref ab, .ref ae, .ref am, .ref ap, .int (nI (n + 1)), .ref ak, .ref al, .ref af, .ref an, .int mm, .ref ar, .int sm])), (ap, .inl (cJ, 2000, .inl (upd (upd ft n ((x >>> (24 &&& 31)) &&& 255)) (n + 1) ((x >>> (16 &&& 31)) &&& 255))))] := hD
      refine lv_aload_n hx hb dX2_lay_23 rfl (lv_at hl 1 rfl) ?_
      refine lv_dup hx hb dX2_lay_24 rfl ?_
      refine va_get (D := (dC, dI)) (ci := 2) (v := .int (nI (n + 1))) (C := RX2) (T := TX2) (N := 14) hx hb hts (by decide +kernel) hown hK hP 0 rfl rfl 6 (by decide) (hts (.fieldLink RX2 118 "KeySumsModel" "size" "I") (by decide +kernel)) (fun _ h9 => h9) rfl dX2_lay_25 ?_
      refine lv_iconst (v := 1) hx hb dX2_lay_28 (by decide) ?_
      refine lv_iadd hx hb dX2_lay_29 ?_
      refine kz_top (y := nI (n + 2)) (nI_add (n + 1) 1) ?_
      refine va_put (D := (dC, dI)) (ci := 2) (v := .int (nI (n + 2))) (ty := .int) (C := RX2) (T := TX2) (N := 14) hx hb hts (by decide +kernel) tyX2 tyX2_ok nmX2 hown hK hP hD hS 0 rfl rfl 6 (by decide) (hts (.fieldLink RX2 118 "KeySumsModel" "size" "I") (by decide +kernel)) (fun _ h9 => h9) rfl (by decide +kernel) rfl rfl (Nat.le_of_ble_eq_true rfl) dX2_lay_30 (fun H locs hP hD hS => ?_)
      have hP : va_P (dC, dI) vwCl [(h, .inr (2, [.ref ac, .ref au, .ref ab, .ref ae, .ref am, .ref ap, .int (nI (n + 2)), .ref ak, .ref al, .ref af, .ref an, .int mm, .ref ar, .int sm])), (ap, .inl (cJ, 2000, .inl (upd (upd ft n ((x >>> (24 &&& 31)) &&& 255)) (n + 1) ((x >>> (16 &&& 31)) &&& 255))))] H := hP
      have hD : va_D A [(h, .inr (2, [.ref ac, .ref au, .ref ab, .ref ae, .ref am, .ref ap, .int (nI (n + 2)), .ref ak, .ref al, .ref af, .ref an, .int mm, .ref ar, .int sm])), (ap, .inl (cJ, 2000, .inl (upd (upd ft n ((x >>> (24 &&& 31)) &&& 255)) (n + 1) ((x >>> (16 &&& 31)) &&& 255))))] := hD
      refine lv_iinc (v := 8) (lv' := [(2, .int 8), (0, .ref h), (1, .int x)]) hx hb dX2_lay_33 hl (k := 0) rfl (by decide) (by decide) rfl (fun ls hl => ?_)
      refine lv_goto (tgt := 3) hx hb dX2_lay_36 (by decide) ?_
      refine lv_iload_n hx hb dX2_lay_3 rfl (lv_at hl 0 rfl) ?_
      refine lv_if_lt (tgt := 39) hx hb dX2_lay_4 (by decide) (fun hc => ?_) (fun hc => ?_)
      · skip
        exact absurd hc (by decide)
      · skip
        refine lv_aload_n hx hb dX2_lay_7 rfl (lv_at hl 1 rfl) ?_
        refine va_get (D := (dC, dI)) (ci := 2) (v := .ref ap) (C := RX2) (T := TX2) (N := 14) hx hb hts (by decide +kernel) hown hK hP 0 rfl rfl 5 (by decide) (hts (.fieldLink RX2 93 "KeySumsModel" "tape" "[I") (by decide +kernel)) (fun _ h9 => h9) rfl dX2_lay_8 ?_
        refine lv_aload_n hx hb dX2_lay_11 rfl (lv_at hl 1 rfl) ?_
        refine va_get (D := (dC, dI)) (ci := 2) (v := .int (nI (n + 2))) (C := RX2) (T := TX2) (N := 14) hx hb hts (by decide +kernel) hown hK hP 0 rfl rfl 6 (by decide) (hts (.fieldLink RX2 118 "KeySumsModel" "size" "I") (by decide +kernel)) (fun _ h9 => h9) rfl dX2_lay_12 ?_
        refine lv_iload_n hx hb dX2_lay_15 rfl (lv_at hl 2 rfl) ?_
        refine lv_iload_n hx hb dX2_lay_16 rfl (lv_at hl 0 rfl) ?_
        refine lv_ishr hx hb dX2_lay_17 ?_
        refine lv_sipush (v := 255) hx hb dX2_lay_18 (by decide) ?_
        refine lv_iand hx hb dX2_lay_21 ?_
        refine kz_iast (j := (n + 2)) hx hb hK hP hD hS 1 0 rfl rfl (show (n + 2) < 2000 by omega) (by decide) dX2_lay_22 (fun H locs hP hD hS => ?_)
        have hP : va_P (dC, dI) vwCl [(h, .inr (2, [.ref ac, .ref au, .ref ab, .ref ae, .ref am, .ref ap, .int (nI (n + 2)), .ref ak, .ref al, .ref af, .ref an, .int mm, .ref ar, .int sm])), (ap, .inl (cJ, 2000, .inl (upd (upd (upd ft n ((x >>> (24 &&& 31)) &&& 255)) (n + 1) ((x >>> (16 &&& 31)) &&& 255)) (n + 2) ((x >>> (8 &&& 31)) &&& 255))))] H := hP
        have hD : va_D A [(h, .inr (2, [.ref ac, .ref au, .ref ab, .ref ae, .ref am, .ref ap, .int (nI (n + 2)), .ref ak, .ref al, .ref af, .ref an, .int mm, .ref ar, .int sm])), (ap, .inl (cJ, 2000, .inl (upd (upd (upd ft n ((x >>> (24 &&& 31)) &&& 255)) (n + 1) ((x >>> (16 &&& 31)) &&& 255)) (n + 2) ((x >>> (8 &&& 31)) &&& 255))))] := hD
        refine lv_aload_n hx hb dX2_lay_23 rfl (lv_at hl 1 rfl) ?_
        refine lv_dup hx hb dX2_lay_24 rfl ?_
        refine va_get (D := (dC, dI)) (ci := 2) (v := .int (nI (n + 2))) (C := RX2) (T := TX2) (N := 14) hx hb hts (by decide +kernel) hown hK hP 0 rfl rfl 6 (by decide) (hts (.fieldLink RX2 118 "KeySumsModel" "size" "I") (by decide +kernel)) (fun _ h9 => h9) rfl dX2_lay_25 ?_
        refine lv_iconst (v := 1) hx hb dX2_lay_28 (by decide) ?_
        refine lv_iadd hx hb dX2_lay_29 ?_
        refine kz_top (y := nI (n + 3)) (nI_add (n + 2) 1) ?_
        refine va_put (D := (dC, dI)) (ci := 2) (v := .int (nI (n + 3))) (ty := .int) (C := RX2) (T := TX2) (N := 14) hx hb hts (by decide +kernel) tyX2 tyX2_ok nmX2 hown hK hP hD hS 0 rfl rfl 6 (by decide) (hts (.fieldLink RX2 118 "KeySumsModel" "size" "I") (by decide +kernel)) (fun _ h9 => h9) rfl (by decide +kernel) rfl rfl (Nat.le_of_ble_eq_true rfl) dX2_lay_30 (fun H locs hP hD hS => ?_)
        have hP : va_P (dC, dI) vwCl [(h, .inr (2, [.ref ac, .ref au, .ref ab, .ref ae, .ref am, .ref ap, .int (nI (n + 3)), .ref ak, .ref al, .ref af, .ref an, .int mm, .ref ar, .int sm])), (ap, .inl (cJ, 2000, .inl (upd (upd (upd ft n ((x >>> (24 &&& 31)) &&& 255)) (n + 1) ((x >>> (16 &&& 31)) &&& 255)) (n + 2) ((x >>> (8 &&& 31)) &&& 255))))] H := hP
        have hD : va_D A [(h, .inr (2, [.ref ac, .ref au, .ref ab, .ref ae, .ref am, .ref ap, .int (nI (n + 3)), .ref ak, .ref al, .ref af, .ref an, .int mm, .ref ar, .int sm])), (ap, .inl (cJ, 2000, .inl (upd (upd (upd ft n ((x >>> (24 &&& 31)) &&& 255)) (n + 1) ((x >>> (16 &&& 31)) &&& 255)) (n + 2) ((x >>> (8 &&& 31)) &&& 255))))] := hD
        refine lv_iinc (v := 0) (lv' := [(2, .int 0), (0, .ref h), (1, .int x)]) hx hb dX2_lay_33 hl (k := 0) rfl (by decide) (by decide) rfl (fun ls hl => ?_)
        refine lv_goto (tgt := 3) hx hb dX2_lay_36 (by decide) ?_
        refine lv_iload_n hx hb dX2_lay_3 rfl (lv_at hl 0 rfl) ?_
        refine lv_if_lt (tgt := 39) hx hb dX2_lay_4 (by decide) (fun hc => ?_) (fun hc => ?_)
        · skip
          exact absurd hc (by decide)
        · skip
          refine lv_aload_n hx hb dX2_lay_7 rfl (lv_at hl 1 rfl) ?_
          refine va_get (D := (dC, dI)) (ci := 2) (v := .ref ap) (C := RX2) (T := TX2) (N := 14) hx hb hts (by decide +kernel) hown hK hP 0 rfl rfl 5 (by decide) (hts (.fieldLink RX2 93 "KeySumsModel" "tape" "[I") (by decide +kernel)) (fun _ h9 => h9) rfl dX2_lay_8 ?_
          refine lv_aload_n hx hb dX2_lay_11 rfl (lv_at hl 1 rfl) ?_
          refine va_get (D := (dC, dI)) (ci := 2) (v := .int (nI (n + 3))) (C := RX2) (T := TX2) (N := 14) hx hb hts (by decide +kernel) hown hK hP 0 rfl rfl 6 (by decide) (hts (.fieldLink RX2 118 "KeySumsModel" "size" "I") (by decide +kernel)) (fun _ h9 => h9) rfl dX2_lay_12 ?_
          refine lv_iload_n hx hb dX2_lay_15 rfl (lv_at hl 2 rfl) ?_
          refine lv_iload_n hx hb dX2_lay_16 rfl (lv_at hl 0 rfl) ?_
          refine lv_ishr hx hb dX2_lay_17 ?_
          refine lv_sipush (v := 255) hx hb dX2_lay_18 (by decide) ?_
          refine lv_iand hx hb dX2_lay_21 ?_
          refine kz_iast (j := (n + 3)) hx hb hK hP hD hS 1 0 rfl rfl (show (n + 3) < 2000 by omega) (by decide) dX2_lay_22 (fun H locs hP hD hS => ?_)
          have hP : va_P (dC, dI) vwCl [(h, .inr (2, [.ref ac, .ref au, .ref ab, .ref ae, .ref am, .ref ap, .int (nI (n + 3)), .ref ak, .ref al, .ref af, .ref an, .int mm, .ref ar, .int sm])), (ap, .inl (cJ, 2000, .inl (upd (upd (upd (upd ft n ((x >>> (24 &&& 31)) &&& 255)) (n + 1) ((x >>> (16 &&& 31)) &&& 255)) (n + 2) ((x >>> (8 &&& 31)) &&& 255)) (n + 3) ((x >>> (0 &&& 31)) &&& 255))))] H := hP
          have hD : va_D A [(h, .inr (2, [.ref ac, .ref au, .ref ab, .ref ae, .ref am, .ref ap, .int (nI (n + 3)), .ref ak, .ref al, .ref af, .ref an, .int mm, .ref ar, .int sm])), (ap, .inl (cJ, 2000, .inl (upd (upd (upd (upd ft n ((x >>> (24 &&& 31)) &&& 255)) (n + 1) ((x >>> (16 &&& 31)) &&& 255)) (n + 2) ((x >>> (8 &&& 31)) &&& 255)) (n + 3) ((x >>> (0 &&& 31)) &&& 255))))] := hD
          refine lv_aload_n hx hb dX2_lay_23 rfl (lv_at hl 1 rfl) ?_
          refine lv_dup hx hb dX2_lay_24 rfl ?_
          refine va_get (D := (dC, dI)) (ci := 2) (v := .int (nI (n + 3))) (C := RX2) (T := TX2) (N := 14) hx hb hts (by decide +kernel) hown hK hP 0 rfl rfl 6 (by decide) (hts (.fieldLink RX2 118 "KeySumsModel" "size" "I") (by decide +kernel)) (fun _ h9 => h9) rfl dX2_lay_25 ?_
          refine lv_iconst (v := 1) hx hb dX2_lay_28 (by decide) ?_
          refine lv_iadd hx hb dX2_lay_29 ?_
          refine kz_top (y := nI (n + 4)) (nI_add (n + 3) 1) ?_
          refine va_put (D := (dC, dI)) (ci := 2) (v := .int (nI (n + 4))) (ty := .int) (C := RX2) (T := TX2) (N := 14) hx hb hts (by decide +kernel) tyX2 tyX2_ok nmX2 hown hK hP hD hS 0 rfl rfl 6 (by decide) (hts (.fieldLink RX2 118 "KeySumsModel" "size" "I") (by decide +kernel)) (fun _ h9 => h9) rfl (by decide +kernel) rfl rfl (Nat.le_of_ble_eq_true rfl) dX2_lay_30 (fun H locs hP hD hS => ?_)
          have hP : va_P (dC, dI) vwCl [(h, .inr (2, [.ref ac, .ref au, .ref ab, .ref ae, .ref am, .ref ap, .int (nI (n + 4)), .ref ak, .ref al, .ref af, .ref an, .int mm, .ref ar, .int sm])), (ap, .inl (cJ, 2000, .inl (upd (upd (upd (upd ft n ((x >>> (24 &&& 31)) &&& 255)) (n + 1) ((x >>> (16 &&& 31)) &&& 255)) (n + 2) ((x >>> (8 &&& 31)) &&& 255)) (n + 3) ((x >>> (0 &&& 31)) &&& 255))))] H := hP
          have hD : va_D A [(h, .inr (2, [.ref ac, .ref au, .ref ab, .ref ae, .ref am, .ref ap, .int (nI (n + 4)), .ref ak, .ref al, .ref af, .ref an, .int mm, .ref ar, .int sm])), (ap, .inl (cJ, 2000, .inl (upd (upd (upd (upd ft n ((x >>> (24 &&& 31)) &&& 255)) (n + 1) ((x >>> (16 &&& 31)) &&& 255)) (n + 2) ((x >>> (8 &&& 31)) &&& 255)) (n + 3) ((x >>> (0 &&& 31)) &&& 255))))] := hD
          refine lv_iinc (v := (-8)) (lv' := [(2, .int (-8)), (0, .ref h), (1, .int x)]) hx hb dX2_lay_33 hl (k := 0) rfl (by decide) (by decide) rfl (fun ls hl => ?_)
          refine lv_goto (tgt := 3) hx hb dX2_lay_36 (by decide) ?_
          refine lv_iload_n hx hb dX2_lay_3 rfl (lv_at hl 0 rfl) ?_
          refine lv_if_lt (tgt := 39) hx hb dX2_lay_4 (by decide) (fun hc => ?_) (fun hc => ?_)
          · skip
            have hP9 := hP.sub (ws' := [(h, .inr (2, [.ref ac, .ref au, .ref ab, .ref ae, .ref am, .ref ap, .int (nI (n + 4)), .ref ak, .ref al, .ref af, .ref an, .int mm, .ref ar, .int sm])), (ap, .inl (cJ, 2000, .inl (ks_ly ft n x)))]) [0, 1] rfl
            have hD9 := hD.sub (ws' := [(h, .inr (2, [.ref ac, .ref au, .ref ab, .ref ae, .ref am, .ref ap, .int (nI (n + 4)), .ref ak, .ref al, .ref af, .ref an, .int mm, .ref ar, .int sm])), (ap, .inl (cJ, 2000, .inl (ks_ly ft n x)))]) [0, 1] (by decide) rfl
            have hK9 := hK.sub (tys' := [(cJ, .int)]) [0] rfl
            exact W.vret hx hb hr (fun t ht hW => ⟨⟨(), rfl, trivial, by rw [ht]; exact hP9, va_K.moved hW.alike hK9, hD9⟩, hS.F ht⟩) hS.2.2 dX2_lay_39
          · skip
            exact absurd (by decide) hc

set_option maxHeartbeats 4000000 in
set_option maxRecDepth 100000 in
/-- feed, refused -/
theorem r_feed_no (l : Launch) (dC : Nat → ClassId) (dI : Nat → Nat → Nat) (sz : Nat) (h ac au ab ae am ap ak al af an ar : Nat) (cJ : ClassId) (n : Nat) (mm sm : Int32) (ft : Nat → Int32) (xa xb xc xd xe : Int32) (h1 : 1980 < n) (h2 : n ≤ 2000) : Met l yX2_feed wsX2_feed ({ frames := 1, cells := 0, slots := 0, locals := 40 }) (va_Pc [.ref h, .int xa, .int xb, .int xc, .int xd, .int xe] (fun U => U.heap.size = sz ∧ va_P (dC, dI) vwCl [(h, .inr (2, [.ref ac, .ref au, .ref ab, .ref ae, .ref am, .ref ap, .int (nI n), .ref ak, .ref al, .ref af, .ref an, .int mm, .ref ar, .int sm])), (ap, .inl (cJ, 2000, .inl ft))] U.heap ∧ va_K (dC, dI) vwCl [(cJ, .int)] U ∧ va_D (fun _ => True) [(h, .inr (2, [.ref ac, .ref au, .ref ab, .ref ae, .ref am, .ref ap, .int (nI n), .ref ak, .ref al, .ref af, .ref an, .int mm, .ref ar, .int sm])), (ap, .inl (cJ, 2000, .inl ft))])) (va_Qi (fun (r : Int32) (_u : Unit) => r = 0) (fun (_u : Unit) t => kz_B dC dI [(cJ, .int)] (va_A [(h, .inr (2, [.ref ac, .ref au, .ref ab, .ref ae, .ref am, .ref ap, .int (nI n), .ref ak, .ref al, .ref af, .ref an, .int mm, .ref ar, .int sm])), (ap, .inl (cJ, 2000, .inl ft))] sz) [(h, .inr (2, [.ref ac, .ref au, .ref ab, .ref ae, .ref am, .ref ap, .int (nI n), .ref ak, .ref al, .ref af, .ref an, .int mm, .ref ar, .int sm])), (ap, .inl (cJ, 2000, .inl ft))] t) (va_A [(h, .inr (2, [.ref ac, .ref au, .ref ab, .ref ae, .ref am, .ref ap, .int (nI n), .ref ak, .ref al, .ref af, .ref an, .int mm, .ref ar, .int sm])), (ap, .inl (cJ, 2000, .inl ft))] sz)) 0 0 (va_A [(h, .inr (2, [.ref ac, .ref au, .ref ab, .ref ae, .ref am, .ref ap, .int (nI n), .ref ak, .ref al, .ref af, .ref an, .int mm, .ref ar, .int sm])), (ap, .inl (cJ, 2000, .inl ft))] sz) := by
  refine Met.ofW (cc := cX2_feed) (maxL := 6) (ret := (some .boolean)) (by decide) rfl ?_
  intro p e s m args below meth c s₁ B hml hv
  obtain ⟨rfl, hsz, hP, hK, hD0⟩ := hv
  have hx := B.exec
  have hb := B.bytes
  have hr := B.returns
  have hts := atoms_spec (ws := wsX2_feed) B.pre
  have hown : s.vm.findClass RX2 = some m.cls := findClass_of_methodNamed B.named
  have hlocks := B.notSynchronized
  subst hsz
  have hD := hD0.self (sz := s.heap.size)
  generalize hAe : va_A [(h, .inr (2, [.ref ac, .ref au, .ref ab, .ref ae, .ref am, .ref ap, .int (nI n), .ref ak, .ref al, .ref af, .ref an, .int mm, .ref ar, .int sm])), (ap, .inl (cJ, 2000, .inl ft))] s.heap.size = A at hD  ⊢
  have hA : ∀ q : Nat, s.heap.size ≤ q → A q := fun q h => by rw [← hAe]; exact Or.inr h
  have hS : va_S A s.heap s.heap [] := va_S.rf
  have hP : va_P (dC, dI) vwCl [(h, .inr (2, [.ref ac, .ref au, .ref ab, .ref ae, .ref am, .ref ap, .int (nI n), .ref ak, .ref al, .ref af, .ref an, .int mm, .ref ar, .int sm])), (ap, .inl (cJ, 2000, .inl ft))] s.heap := hP
  have hl := lv_entry ([.ref h, .int xa, .int xb, .int xc, .int xd, .int xe]) (n := 6) (Nat.le_of_ble_eq_true rfl)
  rw [lg_entry_eq]
  generalize (lg_sl ([.ref h, .int xa, .int xb, .int xc, .int xd, .int xe]) ++ List.replicate (6 - (lg_sl ([.ref h, .int xa, .int xb, .int xc, .int xd, .int xe])).length) Slot.unset).toArray = ls at hl ⊢
  have hl : lv_has ls 6 [(0, .ref h), (1, .int xa), (2, .int xb), (3, .int xc), (4, .int xd), (5, .int xe)] := hl
  refine lv_aload_n hx hb dX2_feed_0 rfl (lv_at hl 0 rfl) ?_
  refine va_get (D := (dC, dI)) (ci := 2) (v := .int (nI n)) (C := RX2) (T := TX2) (N := 14) hx hb hts (by decide +kernel) hown hK hP 0 rfl rfl 6 (by decide) (hts (.fieldLink RX2 118 "KeySumsModel" "size" "I") (by decide +kernel)) (fun _ h9 => h9) rfl dX2_feed_1 ?_
  refine lv_bipush (v := 20) hx hb dX2_feed_4 (by decide) ?_
  refine lv_iadd hx hb dX2_feed_6 ?_
  refine kz_top (y := nI (n + 20)) (nI_add n 20) ?_
  refine lv_sipush (v := 2000) hx hb dX2_feed_7 (by decide) ?_
  refine lv_icmp_le (tgt := 15) hx hb dX2_feed_10 (by decide) (fun hc => ?_) (fun hc => ?_)
  · skip
    exact absurd hc (nI_ge (a := 2000) (b := n + 20) (by omega) (by omega))
  · skip
    refine lv_iconst (v := 0) hx hb dX2_feed_13 (by decide) ?_
    have hP9 := hP.sub (ws' := [(h, .inr (2, [.ref ac, .ref au, .ref ab, .ref ae, .ref am, .ref ap, .int (nI n), .ref ak, .ref al, .ref af, .ref an, .int mm, .ref ar, .int sm])), (ap, .inl (cJ, 2000, .inl ft))]) [0, 1] rfl
    have hD9 := hD.sub (ws' := [(h, .inr (2, [.ref ac, .ref au, .ref ab, .ref ae, .ref am, .ref ap, .int (nI n), .ref ak, .ref al, .ref af, .ref an, .int mm, .ref ar, .int sm])), (ap, .inl (cJ, 2000, .inl ft))]) [0, 1] (by decide) rfl
    have hK9 := hK.sub (tys' := [(cJ, .int)]) [0] rfl
    exact W.zret (v := 0) (ty := .boolean) hx hb hr (by rfl) (fun t ht hW => ⟨⟨0, (), rfl, rfl, by rw [ht]; exact hP9, va_K.moved hW.alike hK9, hD9⟩, hS.F ht⟩) hS.2.2 dX2_feed_14

set_option maxHeartbeats 4000000 in
set_option maxRecDepth 100000 in
/-- feed -/
theorem r_feed_ok (l : Launch) (dC : Nat → ClassId) (dI : Nat → Nat → Nat) (sz : Nat) (h ac au ab ae am ap ak al af an ar : Nat) (cJ : ClassId) (n : Nat) (mm sm : Int32) (ft : Nat → Int32) (xa xb xc xd xe : Int32) (h1 : n ≤ 1980) : Met l yX2_feed wsX2_feed ({ frames := 1, cells := 0, slots := 0, locals := 40 }) (va_Pc [.ref h, .int xa, .int xb, .int xc, .int xd, .int xe] (fun U => U.heap.size = sz ∧ va_P (dC, dI) vwCl [(h, .inr (2, [.ref ac, .ref au, .ref ab, .ref ae, .ref am, .ref ap, .int (nI n), .ref ak, .ref al, .ref af, .ref an, .int mm, .ref ar, .int sm])), (ap, .inl (cJ, 2000, .inl ft))] U.heap ∧ va_K (dC, dI) vwCl [(cJ, .int)] U ∧ va_D (fun _ => True) [(h, .inr (2, [.ref ac, .ref au, .ref ab, .ref ae, .ref am, .ref ap, .int (nI n), .ref ak, .ref al, .ref af, .ref an, .int mm, .ref ar, .int sm])), (ap, .inl (cJ, 2000, .inl ft))])) (va_Qi (fun (r : Int32) (_u : Unit) => r = 1) (fun (_u : Unit) t => kz_B dC dI [(cJ, .int)] (va_A [(h, .inr (2, [.ref ac, .ref au, .ref ab, .ref ae, .ref am, .ref ap, .int (nI n), .ref ak, .ref al, .ref af, .ref an, .int mm, .ref ar, .int sm])), (ap, .inl (cJ, 2000, .inl ft))] sz) [(h, .inr (2, [.ref ac, .ref au, .ref ab, .ref ae, .ref am, .ref ap, .int (nI (n + 20)), .ref ak, .ref al, .ref af, .ref an, .int mm, .ref ar, .int sm])), (ap, .inl (cJ, 2000, .inl (ks_ly (ks_ly (ks_ly (ks_ly (ks_ly ft n xa) (n + 4) xb) (n + 8) xc) (n + 12) xd) (n + 16) xe)))] t) (va_A [(h, .inr (2, [.ref ac, .ref au, .ref ab, .ref ae, .ref am, .ref ap, .int (nI n), .ref ak, .ref al, .ref af, .ref an, .int mm, .ref ar, .int sm])), (ap, .inl (cJ, 2000, .inl ft))] sz)) 0 0 (va_A [(h, .inr (2, [.ref ac, .ref au, .ref ab, .ref ae, .ref am, .ref ap, .int (nI n), .ref ak, .ref al, .ref af, .ref an, .int mm, .ref ar, .int sm])), (ap, .inl (cJ, 2000, .inl ft))] sz) := by
  refine Met.ofW (cc := cX2_feed) (maxL := 6) (ret := (some .boolean)) (by decide) rfl ?_
  intro p e s m args below meth c s₁ B hml hv
  obtain ⟨rfl, hsz, hP, hK, hD0⟩ := hv
  have hx := B.exec
  have hb := B.bytes
  have hr := B.returns
  have hts := atoms_spec (ws := wsX2_feed) B.pre
  have hown : s.vm.findClass RX2 = some m.cls := findClass_of_methodNamed B.named
  have hlocks := B.notSynchronized
  subst hsz
  have hD := hD0.self (sz := s.heap.size)
  generalize hAe : va_A [(h, .inr (2, [.ref ac, .ref au, .ref ab, .ref ae, .ref am, .ref ap, .int (nI n), .ref ak, .ref al, .ref af, .ref an, .int mm, .ref ar, .int sm])), (ap, .inl (cJ, 2000, .inl ft))] s.heap.size = A at hD  ⊢
  have hA : ∀ q : Nat, s.heap.size ≤ q → A q := fun q h => by rw [← hAe]; exact Or.inr h
  have hS : va_S A s.heap s.heap [] := va_S.rf
  have hP : va_P (dC, dI) vwCl [(h, .inr (2, [.ref ac, .ref au, .ref ab, .ref ae, .ref am, .ref ap, .int (nI n), .ref ak, .ref al, .ref af, .ref an, .int mm, .ref ar, .int sm])), (ap, .inl (cJ, 2000, .inl ft))] s.heap := hP
  have hl := lv_entry ([.ref h, .int xa, .int xb, .int xc, .int xd, .int xe]) (n := 6) (Nat.le_of_ble_eq_true rfl)
  rw [lg_entry_eq]
  generalize (lg_sl ([.ref h, .int xa, .int xb, .int xc, .int xd, .int xe]) ++ List.replicate (6 - (lg_sl ([.ref h, .int xa, .int xb, .int xc, .int xd, .int xe])).length) Slot.unset).toArray = ls at hl ⊢
  have hl : lv_has ls 6 [(0, .ref h), (1, .int xa), (2, .int xb), (3, .int xc), (4, .int xd), (5, .int xe)] := hl
  refine lv_aload_n hx hb dX2_feed_0 rfl (lv_at hl 0 rfl) ?_
  refine va_get (D := (dC, dI)) (ci := 2) (v := .int (nI n)) (C := RX2) (T := TX2) (N := 14) hx hb hts (by decide +kernel) hown hK hP 0 rfl rfl 6 (by decide) (hts (.fieldLink RX2 118 "KeySumsModel" "size" "I") (by decide +kernel)) (fun _ h9 => h9) rfl dX2_feed_1 ?_
  refine lv_bipush (v := 20) hx hb dX2_feed_4 (by decide) ?_
  refine lv_iadd hx hb dX2_feed_6 ?_
  refine kz_top (y := nI (n + 20)) (nI_add n 20) ?_
  refine lv_sipush (v := 2000) hx hb dX2_feed_7 (by decide) ?_
  refine lv_icmp_le (tgt := 15) hx hb dX2_feed_10 (by decide) (fun hc => ?_) (fun hc => ?_)
  · skip
    refine lv_aload_n hx hb dX2_feed_15 rfl (lv_at hl 0 rfl) ?_
    refine lv_iload_n hx hb dX2_feed_16 rfl (lv_at hl 1 rfl) ?_
    have ho0 : n + 4 ≤ 2000 := by omega
    have hPc := hP.sub (ws' := [(h, .inr (2, [.ref ac, .ref au, .ref ab, .ref ae, .ref am, .ref ap, .int (nI n), .ref ak, .ref al, .ref af, .ref an, .int mm, .ref ar, .int sm])), (ap, .inl (cJ, 2000, .inl ft))]) [0, 1] rfl
    have hDc := hD.sub (ws' := [(h, .inr (2, [.ref ac, .ref au, .ref ab, .ref ae, .ref am, .ref ap, .int (nI n), .ref ak, .ref al, .ref af, .ref an, .int mm, .ref ar, .int sm])), (ap, .inl (cJ, 2000, .inl ft))]) [0, 1] (by decide) rfl
    have hKc := hK.sub (tys' := [(cJ, .int)]) [0] rfl
    have hFc := va_free (wc := [(h, .inr (2, [.ref ac, .ref au, .ref ab, .ref ae, .ref am, .ref ap, .int (nI n), .ref ak, .ref al, .ref af, .ref an, .int mm, .ref ar, .int sm])), (ap, .inl (cJ, 2000, .inl ft))]) hD hS hA [0, 1] rfl
    refine va_callv (va_runV (As := [.int xa]) (rest := []) ⟨hx, hb, hml, hown, hts⟩ (r_lay l dC dI s.heap.size h ac au ab ae am ap ak al af an ar cJ n mm sm ft xa ho0) (cwV 1 hts gX2_feed_X2_lay rfl rfl rfl (by decide +kernel) ⟨Nat.le_of_ble_eq_true rfl, Nat.le_of_ble_eq_true rfl⟩) ⟨fun a U g mk q => by obtain ⟨q0, q1, qP, qK, qD⟩ := q; exact ⟨q0, q1, qP, va_K.moved (u := U) (U := U.calling g mk a) (Vm.Alike.refl U.vm) qK, qD⟩, va_recv hKc hPc (ci := 2) (q0 := 0) rfl rfl, fun U hU hW => ⟨rfl, by rw [hU], by rw [hU]; exact hPc, va_K.moved hW.alike hKc, hDc.weaken (fun _ _ _ _ => trivial)⟩⟩ rfl rfl hl.1 rfl (lv_room (Nat.le_of_ble_eq_true rfl)) dX2_feed_17 ⟨Nat.zero_le _, Nat.zero_le _⟩) hS (fun q _ h => hFc q h) hFc (fun u t H1 locs ht hvm hw hB hz1 hk1 hS => ?_)
    obtain ⟨hP1, hK1, hD1⟩ := hB
    rw [ht] at hP1
    have hK1 := va_K.moved hvm.symm hK1
    try dsimp only at hw
    obtain ⟨hP, hD⟩ := va_join (wr := []) (w1 := [(h, .inr (2, [.ref ac, .ref au, .ref ab, .ref ae, .ref am, .ref ap, .int (nI (n + 4)), .ref ak, .ref al, .ref af, .ref an, .int mm, .ref ar, .int sm])), (ap, .inl (cJ, 2000, .inl (ks_ly ft n xa)))]) hP hD [0, 1] [] rfl rfl (by decide) (by decide) hk1 hFc hP1 hD1
    have hP := hP.sub (ws' := [(h, .inr (2, [.ref ac, .ref au, .ref ab, .ref ae, .ref am, .ref ap, .int (nI (n + 4)), .ref ak, .ref al, .ref af, .ref an, .int mm, .ref ar, .int sm])), (ap, .inl (cJ, 2000, .inl (ks_ly ft n xa)))]) [0, 1] rfl
    have hD := hD.sub (ws' := [(h, .inr (2, [.ref ac, .ref au, .ref ab, .ref ae, .ref am, .ref ap, .int (nI (n + 4)), .ref ak, .ref al, .ref af, .ref an, .int mm, .ref ar, .int sm])), (ap, .inl (cJ, 2000, .inl (ks_ly ft n xa)))]) [0, 1] (by decide) rfl
    generalize H1 = H at hP hS ⊢
    have hP : va_P (dC, dI) vwCl [(h, .inr (2, [.ref ac, .ref au, .ref ab, .ref ae, .ref am, .ref ap, .int (nI (n + 4)), .ref ak, .ref al, .ref af, .ref an, .int mm, .ref ar, .int sm])), (ap, .inl (cJ, 2000, .inl (ks_ly ft n xa)))] H := hP
    have hD : va_D A [(h, .inr (2, [.ref ac, .ref au, .ref ab, .ref ae, .ref am, .ref ap, .int (nI (n + 4)), .ref ak, .ref al, .ref af, .ref an, .int mm, .ref ar, .int sm])), (ap, .inl (cJ, 2000, .inl (ks_ly ft n xa)))] := hD
    refine lv_aload_n hx hb dX2_feed_20 rfl (lv_at hl 0 rfl) ?_
    refine lv_iload_n hx hb dX2_feed_21 rfl (lv_at hl 2 rfl) ?_
    have ho1 : (n + 4) + 4 ≤ 2000 := by omega
    have hPc := hP.sub (ws' := [(h, .inr (2, [.ref ac, .ref au, .ref ab, .ref ae, .ref am, .ref ap, .int (nI (n + 4)), .ref ak, .ref al, .ref af, .ref an, .int mm, .ref ar, .int sm])), (ap, .inl (cJ, 2000, .inl (ks_ly ft n xa)))]) [0, 1] rfl
    have hDc := hD.sub (ws' := [(h, .inr (2, [.ref ac, .ref au, .ref ab, .ref ae, .ref am, .ref ap, .int (nI (n + 4)), .ref ak, .ref al, .ref af, .ref an, .int mm, .ref ar, .int sm])), (ap, .inl (cJ, 2000, .inl (ks_ly ft n xa)))]) [0, 1] (by decide) rfl
    have hKc := hK.sub (tys' := [(cJ, .int)]) [0] rfl
    have hFc := va_free (wc := [(h, .inr (2, [.ref ac, .ref au, .ref ab, .ref ae, .ref am, .ref ap, .int (nI (n + 4)), .ref ak, .ref al, .ref af, .ref an, .int mm, .ref ar, .int sm])), (ap, .inl (cJ, 2000, .inl (ks_ly ft n xa)))]) hD hS hA [0, 1] rfl
    refine va_callv (va_runV (As := [.int xb]) (rest := []) ⟨hx, hb, hml, hown, hts⟩ (r_lay l dC dI H.size h ac au ab ae am ap ak al af an ar cJ (n + 4) mm sm (ks_ly ft n xa) xb ho1) (cwV 1 hts gX2_feed_X2_lay rfl rfl rfl (by decide +kernel) ⟨Nat.le_of_ble_eq_true rfl, Nat.le_of_ble_eq_true rfl⟩) ⟨fun a U g mk q => by obtain ⟨q0, q1, qP, qK, qD⟩ := q; exact ⟨q0, q1, qP, va_K.moved (u := U) (U := U.calling g mk a) (Vm.Alike.refl U.vm) qK, qD⟩, va_recv hKc hPc (ci := 2) (q0 := 0) rfl rfl, fun U hU hW => ⟨rfl, by rw [hU], by rw [hU]; exact hPc, va_K.moved hW.alike hKc, hDc.weaken (fun _ _ _ _ => trivial)⟩⟩ rfl rfl hl.1 rfl (lv_room (Nat.le_of_ble_eq_true rfl)) dX2_feed_22 ⟨Nat.zero_le _, Nat.zero_le _⟩) hS (fun q _ h => hFc q h) hFc (fun u t H1 locs ht hvm hw hB hz1 hk1 hS => ?_)
    obtain ⟨hP1, hK1, hD1⟩ := hB
    rw [ht] at hP1
    have hK1 := va_K.moved hvm.symm hK1
    try dsimp only at hw
    obtain ⟨hP, hD⟩ := va_join (wr := []) (w1 := [(h, .inr (2, [.ref ac, .ref au, .ref ab, .ref ae, .ref am, .ref ap, .int (nI (n + 8)), .ref ak, .ref al, .ref af, .ref an, .int mm, .ref ar, .int sm])), (ap, .inl (cJ, 2000, .inl (ks_ly (ks_ly ft n xa) (n + 4) xb)))]) hP hD [0, 1] [] rfl rfl (by decide) (by decide) hk1 hFc hP1 hD1
    have hP := hP.sub (ws' := [(h, .inr (2, [.ref ac, .ref au, .ref ab, .ref ae, .ref am, .ref ap, .int (nI (n + 8)), .ref ak, .ref al, .ref af, .ref an, .int mm, .ref ar, .int sm])), (ap, .inl (cJ, 2000, .inl (ks_ly (ks_ly ft n xa) (n + 4) xb)))]) [0, 1] rfl
    have hD := hD.sub (ws' := [(h, .inr (2, [.ref ac, .ref au, .ref ab, .ref ae, .ref am, .ref ap, .int (nI (n + 8)), .ref ak, .ref al, .ref af, .ref an, .int mm, .ref ar, .int sm])), (ap, .inl (cJ, 2000, .inl (ks_ly (ks_ly ft n xa) (n + 4) xb)))]) [0, 1] (by decide) rfl
    generalize H1 = H at hP hS ⊢
    have hP : va_P (dC, dI) vwCl [(h, .inr (2, [.ref ac, .ref au, .ref ab, .ref ae, .ref am, .ref ap, .int (nI (n + 8)), .ref ak, .ref al, .ref af, .ref an, .int mm, .ref ar, .int sm])), (ap, .inl (cJ, 2000, .inl (ks_ly (ks_ly ft n xa) (n + 4) xb)))] H := hP
    have hD : va_D A [(h, .inr (2, [.ref ac, .ref au, .ref ab, .ref ae, .ref am, .ref ap, .int (nI (n + 8)), .ref ak, .ref al, .ref af, .ref an, .int mm, .ref ar, .int sm])), (ap, .inl (cJ, 2000, .inl (ks_ly (ks_ly ft n xa) (n + 4) xb)))] := hD
    refine lv_aload_n hx hb dX2_feed_25 rfl (lv_at hl 0 rfl) ?_
    refine lv_iload_n hx hb dX2_feed_26 rfl (lv_at hl 3 rfl) ?_
    have ho2 : (n + 8) + 4 ≤ 2000 := by omega
    have hPc := hP.sub (ws' := [(h, .inr (2, [.ref ac, .ref au, .ref ab, .ref ae, .ref am, .ref ap, .int (nI (n + 8)), .ref ak, .ref al, .ref af, .ref an, .int mm, .ref ar, .int sm])), (ap, .inl (cJ, 2000, .inl (ks_ly (ks_ly ft n xa) (n + 4) xb)))]) [0, 1] rfl
    have hDc := hD.sub (ws' := [(h, .inr (2, [.ref ac, .ref au, .ref ab, .ref ae, .ref am, .ref ap, .int (nI (n + 8)), .ref ak, .ref al, .ref af, .ref an, .int mm, .ref ar, .int sm])), (ap, .inl (cJ, 2000, .inl (ks_ly (ks_ly ft n xa) (n + 4) xb)))]) [0, 1] (by decide) rfl
    have hKc := hK.sub (tys' := [(cJ, .int)]) [0] rfl
    have hFc := va_free (wc := [(h, .inr (2, [.ref ac, .ref au, .ref ab, .ref ae, .ref am, .ref ap, .int (nI (n + 8)), .ref ak, .ref al, .ref af, .ref an, .int mm, .ref ar, .int sm])), (ap, .inl (cJ, 2000, .inl (ks_ly (ks_ly ft n xa) (n + 4) xb)))]) hD hS hA [0, 1] rfl
    refine va_callv (va_runV (As := [.int xc]) (rest := []) ⟨hx, hb, hml, hown, hts⟩ (r_lay l dC dI H.size h ac au ab ae am ap ak al af an ar cJ (n + 8) mm sm (ks_ly (ks_ly ft n xa) (n + 4) xb) xc ho2) (cwV 1 hts gX2_feed_X2_lay rfl rfl rfl (by decide +kernel) ⟨Nat.le_of_ble_eq_true rfl, Nat.le_of_ble_eq_true rfl⟩) ⟨fun a U g mk q => by obtain ⟨q0, q1, qP, qK, qD⟩ := q; exact ⟨q0, q1, qP, va_K.moved (u := U) (U := U.calling g mk a) (Vm.Alike.refl U.vm) qK, qD⟩, va_recv hKc hPc (ci := 2) (q0 := 0) rfl rfl, fun U hU hW => ⟨rfl, by rw [hU], by rw [hU]; exact hPc, va_K.moved hW.alike hKc, hDc.weaken (fun _ _ _ _ => trivial)⟩⟩ rfl rfl hl.1 rfl (lv_room (Nat.le_of_ble_eq_true rfl)) dX2_feed_27 ⟨Nat.zero_le _, Nat.zero_le _⟩) hS (fun q _ h => hFc q h) hFc (fun u t H1 locs ht hvm hw hB hz1 hk1 hS => ?_)
    obtain ⟨hP1, hK1, hD1⟩ := hB
    rw [ht] at hP1
    have hK1 := va_K.moved hvm.symm hK1
    try dsimp only at hw
    obtain ⟨hP, hD⟩ := va_join (wr := []) (w1 := [(h, .inr (2, [.ref ac, .ref au, .ref ab, .ref ae, .ref am, .ref ap, .int (nI (n + 12)), .ref ak, .ref al, .ref af, .ref an, .int mm, .ref ar, .int sm])), (ap, .inl (cJ, 2000, .inl (ks_ly (ks_ly (ks_ly ft n xa) (n + 4) xb) (n + 8) xc)))]) hP hD [0, 1] [] rfl rfl (by decide) (by decide) hk1 hFc hP1 hD1
    have hP := hP.sub (ws' := [(h, .inr (2, [.ref ac, .ref au, .ref ab, .ref ae, .ref am, .ref ap, .int (nI (n + 12)), .ref ak, .ref al, .ref af, .ref an, .int mm, .ref ar, .int sm])), (ap, .inl (cJ, 2000, .inl (ks_ly (ks_ly (ks_ly ft n xa) (n + 4) xb) (n + 8) xc)))]) [0, 1] rfl
    have hD := hD.sub (ws' := [(h, .inr (2, [.ref ac, .ref au, .ref ab, .ref ae, .ref am, .ref ap, .int (nI (n + 12)), .ref ak, .ref al, .ref af, .ref an, .int mm, .ref ar, .int sm])), (ap, .inl (cJ, 2000, .inl (ks_ly (ks_ly (ks_ly ft n xa) (n + 4) xb) (n + 8) xc)))]) [0, 1] (by decide) rfl
    generalize H1 = H at hP hS ⊢
    have hP : va_P (dC, dI) vwCl [(h, .inr (2, [.ref ac, .ref au, .ref ab, .ref ae, .ref am, .ref ap, .int (nI (n + 12)), .ref ak, .ref al, .ref af, .ref an, .int mm, .ref ar, .int sm])), (ap, .inl (cJ, 2000, .inl (ks_ly (ks_ly (ks_ly ft n xa) (n + 4) xb) (n + 8) xc)))] H := hP
    have hD : va_D A [(h, .inr (2, [.ref ac, .ref au, .ref ab, .ref ae, .ref am, .ref ap, .int (nI (n + 12)), .ref ak, .ref al, .ref af, .ref an, .int mm, .ref ar, .int sm])), (ap, .inl (cJ, 2000, .inl (ks_ly (ks_ly (ks_ly ft n xa) (n + 4) xb) (n + 8) xc)))] := hD
    refine lv_aload_n hx hb dX2_feed_30 rfl (lv_at hl 0 rfl) ?_
    refine lv_iload hx hb dX2_feed_31 (lv_at hl 4 rfl) ?_
    have ho3 : (n + 12) + 4 ≤ 2000 := by omega
    have hPc := hP.sub (ws' := [(h, .inr (2, [.ref ac, .ref au, .ref ab, .ref ae, .ref am, .ref ap, .int (nI (n + 12)), .ref ak, .ref al, .ref af, .ref an, .int mm, .ref ar, .int sm])), (ap, .inl (cJ, 2000, .inl (ks_ly (ks_ly (ks_ly ft n xa) (n + 4) xb) (n + 8) xc)))]) [0, 1] rfl
    have hDc := hD.sub (ws' := [(h, .inr (2, [.ref ac, .ref au, .ref ab, .ref ae, .ref am, .ref ap, .int (nI (n + 12)), .ref ak, .ref al, .ref af, .ref an, .int mm, .ref ar, .int sm])), (ap, .inl (cJ, 2000, .inl (ks_ly (ks_ly (ks_ly ft n xa) (n + 4) xb) (n + 8) xc)))]) [0, 1] (by decide) rfl
    have hKc := hK.sub (tys' := [(cJ, .int)]) [0] rfl
    have hFc := va_free (wc := [(h, .inr (2, [.ref ac, .ref au, .ref ab, .ref ae, .ref am, .ref ap, .int (nI (n + 12)), .ref ak, .ref al, .ref af, .ref an, .int mm, .ref ar, .int sm])), (ap, .inl (cJ, 2000, .inl (ks_ly (ks_ly (ks_ly ft n xa) (n + 4) xb) (n + 8) xc)))]) hD hS hA [0, 1] rfl
    refine va_callv (va_runV (As := [.int xd]) (rest := []) ⟨hx, hb, hml, hown, hts⟩ (r_lay l dC dI H.size h ac au ab ae am ap ak al af an ar cJ (n + 12) mm sm (ks_ly (ks_ly (ks_ly ft n xa) (n + 4) xb) (n + 8) xc) xd ho3) (cwV 1 hts gX2_feed_X2_lay rfl rfl rfl (by decide +kernel) ⟨Nat.le_of_ble_eq_true rfl, Nat.le_of_ble_eq_true rfl⟩) ⟨fun a U g mk q => by obtain ⟨q0, q1, qP, qK, qD⟩ := q; exact ⟨q0, q1, qP, va_K.moved (u := U) (U := U.calling g mk a) (Vm.Alike.refl U.vm) qK, qD⟩, va_recv hKc hPc (ci := 2) (q0 := 0) rfl rfl, fun U hU hW => ⟨rfl, by rw [hU], by rw [hU]; exact hPc, va_K.moved hW.alike hKc, hDc.weaken (fun _ _ _ _ => trivial)⟩⟩ rfl rfl hl.1 rfl (lv_room (Nat.le_of_ble_eq_true rfl)) dX2_feed_33 ⟨Nat.zero_le _, Nat.zero_le _⟩) hS (fun q _ h => hFc q h) hFc (fun u t H1 locs ht hvm hw hB hz1 hk1 hS => ?_)
    obtain ⟨hP1, hK1, hD1⟩ := hB
    rw [ht] at hP1
    have hK1 := va_K.moved hvm.symm hK1
    try dsimp only at hw
    obtain ⟨hP, hD⟩ := va_join (wr := []) (w1 := [(h, .inr (2, [.ref ac, .ref au, .ref ab, .ref ae, .ref am, .ref ap, .int (nI (n + 16)), .ref ak, .ref al, .ref af, .ref an, .int mm, .ref ar, .int sm])), (ap, .inl (cJ, 2000, .inl (ks_ly (ks_ly (ks_ly (ks_ly ft n xa) (n + 4) xb) (n + 8) xc) (n + 12) xd)))]) hP hD [0, 1] [] rfl rfl (by decide) (by decide) hk1 hFc hP1 hD1
    have hP := hP.sub (ws' := [(h, .inr (2, [.ref ac, .ref au, .ref ab, .ref ae, .ref am, .ref ap, .int (nI (n + 16)), .ref ak, .ref al, .ref af, .ref an, .int mm, .ref ar, .int sm])), (ap, .inl (cJ, 2000, .inl (ks_ly (ks_ly (ks_ly (ks_ly ft n xa) (n + 4) xb) (n + 8) xc) (n + 12) xd)))]) [0, 1] rfl
    have hD := hD.sub (ws' := [(h, .inr (2, [.ref ac, .ref au, .ref ab, .ref ae, .ref am, .ref ap, .int (nI (n + 16)), .ref ak, .ref al, .ref af, .ref an, .int mm, .ref ar, .int sm])), (ap, .inl (cJ, 2000, .inl (ks_ly (ks_ly (ks_ly (ks_ly ft n xa) (n + 4) xb) (n + 8) xc) (n + 12) xd)))]) [0, 1] (by decide) rfl
    generalize H1 = H at hP hS ⊢
    have hP : va_P (dC, dI) vwCl [(h, .inr (2, [.ref ac, .ref au, .ref ab, .ref ae, .ref am, .ref ap, .int (nI (n + 16)), .ref ak, .ref al, .ref af, .ref an, .int mm, .ref ar, .int sm])), (ap, .inl (cJ, 2000, .inl (ks_ly (ks_ly (ks_ly (ks_ly ft n xa) (n + 4) xb) (n + 8) xc) (n + 12) xd)))] H := hP
    have hD : va_D A [(h, .inr (2, [.ref ac, .ref au, .ref ab, .ref ae, .ref am, .ref ap, .int (nI (n + 16)), .ref ak, .ref al, .ref af, .ref an, .int mm, .ref ar, .int sm])), (ap, .inl (cJ, 2000, .inl (ks_ly (ks_ly (ks_ly (ks_ly ft n xa) (n + 4) xb) (n + 8) xc) (n + 12) xd)))] := hD
    refine lv_aload_n hx hb dX2_feed_36 rfl (lv_at hl 0 rfl) ?_
    refine lv_iload hx hb dX2_feed_37 (lv_at hl 5 rfl) ?_
    have ho4 : (n + 16) + 4 ≤ 2000 := by omega
    have hPc := hP.sub (ws' := [(h, .inr (2, [.ref ac, .ref au, .ref ab, .ref ae, .ref am, .ref ap, .int (nI (n + 16)), .ref ak, .ref al, .ref af, .ref an, .int mm, .ref ar, .int sm])), (ap, .inl (cJ, 2000, .inl (ks_ly (ks_ly (ks_ly (ks_ly ft n xa) (n + 4) xb) (n + 8) xc) (n + 12) xd)))]) [0, 1] rfl
    have hDc := hD.sub (ws' := [(h, .inr (2, [.ref ac, .ref au, .ref ab, .ref ae, .ref am, .ref ap, .int (nI (n + 16)), .ref ak, .ref al, .ref af, .ref an, .int mm, .ref ar, .int sm])), (ap, .inl (cJ, 2000, .inl (ks_ly (ks_ly (ks_ly (ks_ly ft n xa) (n + 4) xb) (n + 8) xc) (n + 12) xd)))]) [0, 1] (by decide) rfl
    have hKc := hK.sub (tys' := [(cJ, .int)]) [0] rfl
    have hFc := va_free (wc := [(h, .inr (2, [.ref ac, .ref au, .ref ab, .ref ae, .ref am, .ref ap, .int (nI (n + 16)), .ref ak, .ref al, .ref af, .ref an, .int mm, .ref ar, .int sm])), (ap, .inl (cJ, 2000, .inl (ks_ly (ks_ly (ks_ly (ks_ly ft n xa) (n + 4) xb) (n + 8) xc) (n + 12) xd)))]) hD hS hA [0, 1] rfl
    refine va_callv (va_runV (As := [.int xe]) (rest := []) ⟨hx, hb, hml, hown, hts⟩ (r_lay l dC dI H.size h ac au ab ae am ap ak al af an ar cJ (n + 16) mm sm (ks_ly (ks_ly (ks_ly (ks_ly ft n xa) (n + 4) xb) (n + 8) xc) (n + 12) xd) xe ho4) (cwV 1 hts gX2_feed_X2_lay rfl rfl rfl (by decide +kernel) ⟨Nat.le_of_ble_eq_true rfl, Nat.le_of_ble_eq_true rfl⟩) ⟨fun a U g mk q => by obtain ⟨q0, q1, qP, qK, qD⟩ := q; exact ⟨q0, q1, qP, va_K.moved (u := U) (U := U.calling g mk a) (Vm.Alike.refl U.vm) qK, qD⟩, va_recv hKc hPc (ci := 2) (q0 := 0) rfl rfl, fun U hU hW => ⟨rfl, by rw [hU], by rw [hU]; exact hPc, va_K.moved hW.alike hKc, hDc.weaken (fun _ _ _ _ => trivial)⟩⟩ rfl rfl hl.1 rfl (lv_room (Nat.le_of_ble_eq_true rfl)) dX2_feed_39 ⟨Nat.zero_le _, Nat.zero_le _⟩) hS (fun q _ h => hFc q h) hFc (fun u t H1 locs ht hvm hw hB hz1 hk1 hS => ?_)
    obtain ⟨hP1, hK1, hD1⟩ := hB
    rw [ht] at hP1
    have hK1 := va_K.moved hvm.symm hK1
    try dsimp only at hw
    obtain ⟨hP, hD⟩ := va_join (wr := []) (w1 := [(h, .inr (2, [.ref ac, .ref au, .ref ab, .ref ae, .ref am, .ref ap, .int (nI (n + 20)), .ref ak, .ref al, .ref af, .ref an, .int mm, .ref ar, .int sm])), (ap, .inl (cJ, 2000, .inl (ks_ly (ks_ly (ks_ly (ks_ly (ks_ly ft n xa) (n + 4) xb) (n + 8) xc) (n + 12) xd) (n + 16) xe)))]) hP hD [0, 1] [] rfl rfl (by decide) (by decide) hk1 hFc hP1 hD1
    have hP := hP.sub (ws' := [(h, .inr (2, [.ref ac, .ref au, .ref ab, .ref ae, .ref am, .ref ap, .int (nI (n + 20)), .ref ak, .ref al, .ref af, .ref an, .int mm, .ref ar, .int sm])), (ap, .inl (cJ, 2000, .inl (ks_ly (ks_ly (ks_ly (ks_ly (ks_ly ft n xa) (n + 4) xb) (n + 8) xc) (n + 12) xd) (n + 16) xe)))]) [0, 1] rfl
    have hD := hD.sub (ws' := [(h, .inr (2, [.ref ac, .ref au, .ref ab, .ref ae, .ref am, .ref ap, .int (nI (n + 20)), .ref ak, .ref al, .ref af, .ref an, .int mm, .ref ar, .int sm])), (ap, .inl (cJ, 2000, .inl (ks_ly (ks_ly (ks_ly (ks_ly (ks_ly ft n xa) (n + 4) xb) (n + 8) xc) (n + 12) xd) (n + 16) xe)))]) [0, 1] (by decide) rfl
    generalize H1 = H at hP hS ⊢
    have hP : va_P (dC, dI) vwCl [(h, .inr (2, [.ref ac, .ref au, .ref ab, .ref ae, .ref am, .ref ap, .int (nI (n + 20)), .ref ak, .ref al, .ref af, .ref an, .int mm, .ref ar, .int sm])), (ap, .inl (cJ, 2000, .inl (ks_ly (ks_ly (ks_ly (ks_ly (ks_ly ft n xa) (n + 4) xb) (n + 8) xc) (n + 12) xd) (n + 16) xe)))] H := hP
    have hD : va_D A [(h, .inr (2, [.ref ac, .ref au, .ref ab, .ref ae, .ref am, .ref ap, .int (nI (n + 20)), .ref ak, .ref al, .ref af, .ref an, .int mm, .ref ar, .int sm])), (ap, .inl (cJ, 2000, .inl (ks_ly (ks_ly (ks_ly (ks_ly (ks_ly ft n xa) (n + 4) xb) (n + 8) xc) (n + 12) xd) (n + 16) xe)))] := hD
    refine lv_iconst (v := 1) hx hb dX2_feed_42 (by decide) ?_
    have hP9 := hP.sub (ws' := [(h, .inr (2, [.ref ac, .ref au, .ref ab, .ref ae, .ref am, .ref ap, .int (nI (n + 20)), .ref ak, .ref al, .ref af, .ref an, .int mm, .ref ar, .int sm])), (ap, .inl (cJ, 2000, .inl (ks_ly (ks_ly (ks_ly (ks_ly (ks_ly ft n xa) (n + 4) xb) (n + 8) xc) (n + 12) xd) (n + 16) xe)))]) [0, 1] rfl
    have hD9 := hD.sub (ws' := [(h, .inr (2, [.ref ac, .ref au, .ref ab, .ref ae, .ref am, .ref ap, .int (nI (n + 20)), .ref ak, .ref al, .ref af, .ref an, .int mm, .ref ar, .int sm])), (ap, .inl (cJ, 2000, .inl (ks_ly (ks_ly (ks_ly (ks_ly (ks_ly ft n xa) (n + 4) xb) (n + 8) xc) (n + 12) xd) (n + 16) xe)))]) [0, 1] (by decide) rfl
    have hK9 := hK.sub (tys' := [(cJ, .int)]) [0] rfl
    exact W.zret (v := 1) (ty := .boolean) hx hb hr (by rfl) (fun t ht hW => ⟨⟨1, (), rfl, rfl, by rw [ht]; exact hP9, va_K.moved hW.alike hK9, hD9⟩, hS.F ht⟩) hS.2.2 dX2_feed_43
  · skip
    exact absurd (nI_le (a := n + 20) (b := 2000) (by omega) (by decide)) hc

set_option maxHeartbeats 4000000 in
set_option maxRecDepth 100000 in
/-- end, refused -/
theorem r_end_no (l : Launch) (dC : Nat → ClassId) (dI : Nat → Nat → Nat) (sz : Nat) (h ac au ab ae am ap ak al af an ar : Nat) (cJ : ClassId) (n : Nat) (mm sm : Int32) (x : Int32) (h1 : x < 0 ∨ nI n < x) : Met l yX2_end wsX2_end ({ frames := 0, cells := 0, slots := 0, locals := 0 }) (va_Pc [.ref h, .int x] (fun U => U.heap.size = sz ∧ va_P (dC, dI) vwCl [(h, .inr (2, [.ref ac, .ref au, .ref ab, .ref ae, .ref am, .ref ap, .int (nI n), .ref ak, .ref al, .ref af, .ref an, .int mm, .ref ar, .int sm]))] U.heap ∧ va_K (dC, dI) vwCl [] U ∧ va_D (fun _ => True) [(h, .inr (2, [.ref ac, .ref au, .ref ab, .ref ae, .ref am, .ref ap, .int (nI n), .ref ak, .ref al, .ref af, .ref an, .int mm, .ref ar, .int sm]))])) (va_Qi (fun (r : Int32) (_u : Unit) => r = 0) (fun (_u : Unit) t => kz_B dC dI [] (va_A [(h, .inr (2, [.ref ac, .ref au, .ref ab, .ref ae, .ref am, .ref ap, .int (nI n), .ref ak, .ref al, .ref af, .ref an, .int mm, .ref ar, .int sm]))] sz) [(h, .inr (2, [.ref ac, .ref au, .ref ab, .ref ae, .ref am, .ref ap, .int (nI n), .ref ak, .ref al, .ref af, .ref an, .int mm, .ref ar, .int sm]))] t) (va_A [(h, .inr (2, [.ref ac, .ref au, .ref ab, .ref ae, .ref am, .ref ap, .int (nI n), .ref ak, .ref al, .ref af, .ref an, .int mm, .ref ar, .int sm]))] sz)) 0 0 (va_A [(h, .inr (2, [.ref ac, .ref au, .ref ab, .ref ae, .ref am, .ref ap, .int (nI n), .ref ak, .ref al, .ref af, .ref an, .int mm, .ref ar, .int sm]))] sz) := by
  refine Met.ofW (cc := cX2_end) (maxL := 2) (ret := (some .boolean)) (by decide) rfl ?_
  intro p e s m args below meth c s₁ B hml hv
  obtain ⟨rfl, hsz, hP, hK, hD0⟩ := hv
  have hx := B.exec
  have hb := B.bytes
  have hr := B.returns
  have hts := atoms_spec (ws := wsX2_end) B.pre
  have hown : s.vm.findClass RX2 = some m.cls := findClass_of_methodNamed B.named
  have hlocks := B.notSynchronized
  subst hsz
  have hD := hD0.self (sz := s.heap.size)
  generalize hAe : va_A [(h, .inr (2, [.ref ac, .ref au, .ref ab, .ref ae, .ref am, .ref ap, .int (nI n), .ref ak, .ref al, .ref af, .ref an, .int mm, .ref ar, .int sm]))] s.heap.size = A at hD  ⊢
  have hA : ∀ q : Nat, s.heap.size ≤ q → A q := fun q h => by rw [← hAe]; exact Or.inr h
  have hS : va_S A s.heap s.heap [] := va_S.rf
  have hP : va_P (dC, dI) vwCl [(h, .inr (2, [.ref ac, .ref au, .ref ab, .ref ae, .ref am, .ref ap, .int (nI n), .ref ak, .ref al, .ref af, .ref an, .int mm, .ref ar, .int sm]))] s.heap := hP
  have hl := lv_entry ([.ref h, .int x]) (n := 2) (Nat.le_of_ble_eq_true rfl)
  rw [lg_entry_eq]
  generalize (lg_sl ([.ref h, .int x]) ++ List.replicate (2 - (lg_sl ([.ref h, .int x])).length) Slot.unset).toArray = ls at hl ⊢
  have hl : lv_has ls 2 [(0, .ref h), (1, .int x)] := hl
  refine lv_iload_n hx hb dX2_end_0 rfl (lv_at hl 1 rfl) ?_
  refine lv_if_lt (tgt := 12) hx hb dX2_end_1 (by decide) (fun hc => ?_) (fun hc => ?_)
  · skip
    refine lv_iconst (v := 0) hx hb dX2_end_12 (by decide) ?_
    have hP9 := hP.sub (ws' := [(h, .inr (2, [.ref ac, .ref au, .ref ab, .ref ae, .ref am, .ref ap, .int (nI n), .ref ak, .ref al, .ref af, .ref an, .int mm, .ref ar, .int sm]))]) [0] rfl
    have hD9 := hD.sub (ws' := [(h, .inr (2, [.ref ac, .ref au, .ref ab, .ref ae, .ref am, .ref ap, .int (nI n), .ref ak, .ref al, .ref af, .ref an, .int mm, .ref ar, .int sm]))]) [0] (by decide) rfl
    have hK9 := hK.sub (tys' := []) [] rfl
    exact W.zret (v := 0) (ty := .boolean) hx hb hr (by rfl) (fun t ht hW => ⟨⟨0, (), rfl, rfl, by rw [ht]; exact hP9, va_K.moved hW.alike hK9, hD9⟩, hS.F ht⟩) hS.2.2 dX2_end_13
  · skip
    refine lv_iload_n hx hb dX2_end_4 rfl (lv_at hl 1 rfl) ?_
    refine lv_aload_n hx hb dX2_end_5 rfl (lv_at hl 0 rfl) ?_
    refine va_get (D := (dC, dI)) (ci := 2) (v := .int (nI n)) (C := RX2) (T := TX2) (N := 14) hx hb hts (by decide +kernel) hown hK hP 0 rfl rfl 6 (by decide) (hts (.fieldLink RX2 118 "KeySumsModel" "size" "I") (by decide +kernel)) (fun _ h9 => h9) rfl dX2_end_6 ?_
    refine lv_icmp_le (tgt := 14) hx hb dX2_end_9 (by decide) (fun hc => ?_) (fun hc => ?_)
    · skip
      exact absurd hc (h1.elim (fun q => absurd q (by assumption)) (fun q => Int32.not_le.mpr q))
    · skip
      refine lv_iconst (v := 0) hx hb dX2_end_12 (by decide) ?_
      have hP9 := hP.sub (ws' := [(h, .inr (2, [.ref ac, .ref au, .ref ab, .ref ae, .ref am, .ref ap, .int (nI n), .ref ak, .ref al, .ref af, .ref an, .int mm, .ref ar, .int sm]))]) [0] rfl
      have hD9 := hD.sub (ws' := [(h, .inr (2, [.ref ac, .ref au, .ref ab, .ref ae, .ref am, .ref ap, .int (nI n), .ref ak, .ref al, .ref af, .ref an, .int mm, .ref ar, .int sm]))]) [0] (by decide) rfl
      have hK9 := hK.sub (tys' := []) [] rfl
      exact W.zret (v := 0) (ty := .boolean) hx hb hr (by rfl) (fun t ht hW => ⟨⟨0, (), rfl, rfl, by rw [ht]; exact hP9, va_K.moved hW.alike hK9, hD9⟩, hS.F ht⟩) hS.2.2 dX2_end_13

set_option maxHeartbeats 4000000 in
set_option maxRecDepth 100000 in
/-- end -/
theorem r_end_ok (l : Launch) (dC : Nat → ClassId) (dI : Nat → Nat → Nat) (sz : Nat) (h ac au ab ae am ap ak al af an ar : Nat) (cJ : ClassId) (n : Nat) (mm sm : Int32) (k : Nat) (h1 : k ≤ n) (h2 : n ≤ 2000) : Met l yX2_end wsX2_end ({ frames := 0, cells := 0, slots := 0, locals := 0 }) (va_Pc [.ref h, .int (nI k)] (fun U => U.heap.size = sz ∧ va_P (dC, dI) vwCl [(h, .inr (2, [.ref ac, .ref au, .ref ab, .ref ae, .ref am, .ref ap, .int (nI n), .ref ak, .ref al, .ref af, .ref an, .int mm, .ref ar, .int sm]))] U.heap ∧ va_K (dC, dI) vwCl [] U ∧ va_D (fun _ => True) [(h, .inr (2, [.ref ac, .ref au, .ref ab, .ref ae, .ref am, .ref ap, .int (nI n), .ref ak, .ref al, .ref af, .ref an, .int mm, .ref ar, .int sm]))])) (va_Qi (fun (r : Int32) (_u : Unit) => r = 1) (fun (_u : Unit) t => kz_B dC dI [] (va_A [(h, .inr (2, [.ref ac, .ref au, .ref ab, .ref ae, .ref am, .ref ap, .int (nI n), .ref ak, .ref al, .ref af, .ref an, .int mm, .ref ar, .int sm]))] sz) [(h, .inr (2, [.ref ac, .ref au, .ref ab, .ref ae, .ref am, .ref ap, .int (nI k), .ref ak, .ref al, .ref af, .ref an, .int mm, .ref ar, .int sm]))] t) (va_A [(h, .inr (2, [.ref ac, .ref au, .ref ab, .ref ae, .ref am, .ref ap, .int (nI n), .ref ak, .ref al, .ref af, .ref an, .int mm, .ref ar, .int sm]))] sz)) 0 0 (va_A [(h, .inr (2, [.ref ac, .ref au, .ref ab, .ref ae, .ref am, .ref ap, .int (nI n), .ref ak, .ref al, .ref af, .ref an, .int mm, .ref ar, .int sm]))] sz) := by
  refine Met.ofW (cc := cX2_end) (maxL := 2) (ret := (some .boolean)) (by decide) rfl ?_
  intro p e s m args below meth c s₁ B hml hv
  obtain ⟨rfl, hsz, hP, hK, hD0⟩ := hv
  have hx := B.exec
  have hb := B.bytes
  have hr := B.returns
  have hts := atoms_spec (ws := wsX2_end) B.pre
  have hown : s.vm.findClass RX2 = some m.cls := findClass_of_methodNamed B.named
  have hlocks := B.notSynchronized
  subst hsz
  have hD := hD0.self (sz := s.heap.size)
  generalize hAe : va_A [(h, .inr (2, [.ref ac, .ref au, .ref ab, .ref ae, .ref am, .ref ap, .int (nI n), .ref ak, .ref al, .ref af, .ref an, .int mm, .ref ar, .int sm]))] s.heap.size = A at hD  ⊢
  have hA : ∀ q : Nat, s.heap.size ≤ q → A q := fun q h => by rw [← hAe]; exact Or.inr h
  have hS : va_S A s.heap s.heap [] := va_S.rf
  have hP : va_P (dC, dI) vwCl [(h, .inr (2, [.ref ac, .ref au, .ref ab, .ref ae, .ref am, .ref ap, .int (nI n), .ref ak, .ref al, .ref af, .ref an, .int mm, .ref ar, .int sm]))] s.heap := hP
  have hl := lv_entry ([.ref h, .int (nI k)]) (n := 2) (Nat.le_of_ble_eq_true rfl)
  rw [lg_entry_eq]
  generalize (lg_sl ([.ref h, .int (nI k)]) ++ List.replicate (2 - (lg_sl ([.ref h, .int (nI k)])).length) Slot.unset).toArray = ls at hl ⊢
  have hl : lv_has ls 2 [(0, .ref h), (1, .int (nI k))] := hl
  refine lv_iload_n hx hb dX2_end_0 rfl (lv_at hl 1 rfl) ?_
  refine lv_if_lt (tgt := 12) hx hb dX2_end_1 (by decide) (fun hc => ?_) (fun hc => ?_)
  · skip
    exact absurd hc (nI_pos (n := k) (by omega))
  · skip
    refine lv_iload_n hx hb dX2_end_4 rfl (lv_at hl 1 rfl) ?_
    refine lv_aload_n hx hb dX2_end_5 rfl (lv_at hl 0 rfl) ?_
    refine va_get (D := (dC, dI)) (ci := 2) (v := .int (nI n)) (C := RX2) (T := TX2) (N := 14) hx hb hts (by decide +kernel) hown hK hP 0 rfl rfl 6 (by decide) (hts (.fieldLink RX2 118 "KeySumsModel" "size" "I") (by decide +kernel)) (fun _ h9 => h9) rfl dX2_end_6 ?_
    refine lv_icmp_le (tgt := 14) hx hb dX2_end_9 (by decide) (fun hc => ?_) (fun hc => ?_)
    · skip
      refine lv_aload_n hx hb dX2_end_14 rfl (lv_at hl 0 rfl) ?_
      refine lv_iload_n hx hb dX2_end_15 rfl (lv_at hl 1 rfl) ?_
      refine va_put (D := (dC, dI)) (ci := 2) (v := .int (nI k)) (ty := .int) (C := RX2) (T := TX2) (N := 14) hx hb hts (by decide +kernel) tyX2 tyX2_ok nmX2 hown hK hP hD hS 0 rfl rfl 6 (by decide) (hts (.fieldLink RX2 118 "KeySumsModel" "size" "I") (by decide +kernel)) (fun _ h9 => h9) rfl (by decide +kernel) rfl rfl (Nat.le_of_ble_eq_true rfl) dX2_end_16 (fun H locs hP hD hS => ?_)
      have hP : va_P (dC, dI) vwCl [(h, .inr (2, [.ref ac, .ref au, .ref ab, .ref ae, .ref am, .ref ap, .int (nI k), .ref ak, .ref al, .ref af, .ref an, .int mm, .ref ar, .int sm]))] H := hP
      have hD : va_D A [(h, .inr (2, [.ref ac, .ref au, .ref ab, .ref ae, .ref am, .ref ap, .int (nI k), .ref ak, .ref al, .ref af, .ref an, .int mm, .ref ar, .int sm]))] := hD
      refine lv_iconst (v := 1) hx hb dX2_end_19 (by decide) ?_
      have hP9 := hP.sub (ws' := [(h, .inr (2, [.ref ac, .ref au, .ref ab, .ref ae, .ref am, .ref ap, .int (nI k), .ref ak, .ref al, .ref af, .ref an, .int mm, .ref ar, .int sm]))]) [0] rfl
      have hD9 := hD.sub (ws' := [(h, .inr (2, [.ref ac, .ref au, .ref ab, .ref ae, .ref am, .ref ap, .int (nI k), .ref ak, .ref al, .ref af, .ref an, .int mm, .ref ar, .int sm]))]) [0] (by decide) rfl
      have hK9 := hK.sub (tys' := []) [] rfl
      exact W.zret (v := 1) (ty := .boolean) hx hb hr (by rfl) (fun t ht hW => ⟨⟨1, (), rfl, rfl, by rw [ht]; exact hP9, va_K.moved hW.alike hK9, hD9⟩, hS.F ht⟩) hS.2.2 dX2_end_20
    · skip
      exact absurd (nI_le h1 (by omega)) hc
end
section
set_option maxHeartbeats 4000000 in
set_option maxRecDepth 100000 in
/-- word -/
theorem r_word (l : Launch) (dC : Nat → ClassId) (dI : Nat → Nat → Nat) (sz : Nat) (h ac au ab ae am ap ak al af an ar : Nat) (cJ : ClassId) (sz0 mm sm : Int32) (bl : Nat → Int32) (k : Nat) (hk : k < 16) : Met l yX2_word wsX2_word ({ frames := 0, cells := 0, slots := 0, locals := 0 }) (va_Pc [.ref h, .int (nI k)] (fun U => U.heap.size = sz ∧ va_P (dC, dI) vwCl [(h, .inr (2, [.ref ac, .ref au, .ref ab, .ref ae, .ref am, .ref ap, .int sz0, .ref ak, .ref al, .ref af, .ref an, .int mm, .ref ar, .int sm])), (al, .inl (cJ, 64, .inl bl))] U.heap ∧ va_K (dC, dI) vwCl [(cJ, .int)] U ∧ va_D (fun _ => True) [(h, .inr (2, [.ref ac, .ref au, .ref ab, .ref ae, .ref am, .ref ap, .int sz0, .ref ak, .ref al, .ref af, .ref an, .int mm, .ref ar, .int sm])), (al, .inl (cJ, 64, .inl bl))])) (vp_Si (fun r => r = ks_lw bl k)) 0 0 (fun _ => False) := by
  refine Met.ofW (cc := cX2_word) (maxL := 2) (ret := (some .int)) (by decide) rfl ?_
  intro p e s m args below meth c s₁ B hml hv
  obtain ⟨rfl, hsz, hP, hK, hD0⟩ := hv
  have hx := B.exec
  have hb := B.bytes
  have hr := B.returns
  have hts := atoms_spec (ws := wsX2_word) B.pre
  have hown : s.vm.findClass RX2 = some m.cls := findClass_of_methodNamed B.named
  have hlocks := B.notSynchronized
  subst hsz
  have hD := hD0.self (sz := s.heap.size)
  generalize hAe : va_A [(h, .inr (2, [.ref ac, .ref au, .ref ab, .ref ae, .ref am, .ref ap, .int sz0, .ref ak, .ref al, .ref af, .ref an, .int mm, .ref ar, .int sm])), (al, .inl (cJ, 64, .inl bl))] s.heap.size = A at hD  ⊢
  have hA : ∀ q : Nat, s.heap.size ≤ q → A q := fun q h => by rw [← hAe]; exact Or.inr h
  have hS : va_S A s.heap s.heap [] := va_S.rf
  have hP : va_P (dC, dI) vwCl [(h, .inr (2, [.ref ac, .ref au, .ref ab, .ref ae, .ref am, .ref ap, .int sz0, .ref ak, .ref al, .ref af, .ref an, .int mm, .ref ar, .int sm])), (al, .inl (cJ, 64, .inl bl))] s.heap := hP
  have hl := lv_entry ([.ref h, .int (nI k)]) (n := 2) (Nat.le_of_ble_eq_true rfl)
  rw [lg_entry_eq]
  generalize (lg_sl ([.ref h, .int (nI k)]) ++ List.replicate (2 - (lg_sl ([.ref h, .int (nI k)])).length) Slot.unset).toArray = ls at hl ⊢
  have hl : lv_has ls 2 [(0, .ref h), (1, .int (nI k))] := hl
  refine lv_aload_n hx hb dX2_word_0 rfl (lv_at hl 0 rfl) ?_
  refine va_get (D := (dC, dI)) (ci := 2) (v := .ref al) (C := RX2) (T := TX2) (N := 14) hx hb hts (by decide +kernel) hown hK hP 0 rfl rfl 8 (by decide) (hts (.fieldLink RX2 99 "KeySumsModel" "block" "[I") (by decide +kernel)) (fun _ h9 => h9) rfl dX2_word_1 ?_
  refine lv_iconst (v := 4) hx hb dX2_word_4 (by decide) ?_
  refine lv_iload_n hx hb dX2_word_5 rfl (lv_at hl 1 rfl) ?_
  refine lv_imul hx hb dX2_word_6 ?_
  refine kz_top (y := nI (4 * k)) (pk_mul 4 k) ?_
  refine kz_iald (j := (4 * k)) hx hb hK hP 1 0 rfl rfl (show 4 * k + 0 < 64 by omega) (by decide) dX2_word_7 ?_
  refine lv_aload_n hx hb dX2_word_8 rfl (lv_at hl 0 rfl) ?_
  refine va_get (D := (dC, dI)) (ci := 2) (v := .ref al) (C := RX2) (T := TX2) (N := 14) hx hb hts (by decide +kernel) hown hK hP 0 rfl rfl 8 (by decide) (hts (.fieldLink RX2 99 "KeySumsModel" "block" "[I") (by decide +kernel)) (fun _ h9 => h9) rfl dX2_word_9 ?_
  refine lv_iconst (v := 4) hx hb dX2_word_12 (by decide) ?_
  refine lv_iload_n hx hb dX2_word_13 rfl (lv_at hl 1 rfl) ?_
  refine lv_imul hx hb dX2_word_14 ?_
  refine kz_top (y := nI (4 * k)) (pk_mul 4 k) ?_
  refine lv_iconst (v := 1) hx hb dX2_word_15 (by decide) ?_
  refine lv_iadd hx hb dX2_word_16 ?_
  refine kz_top (y := nI (4 * k + 1)) (nI_add (4 * k) 1) ?_
  refine kz_iald (j := (4 * k + 1)) hx hb hK hP 1 0 rfl rfl (show 4 * k + 1 < 64 by omega) (by decide) dX2_word_17 ?_
  refine lv_bipush (v := 8) hx hb dX2_word_18 (by decide) ?_
  refine lv_ishl hx hb dX2_word_20 ?_
  refine lv_ior hx hb dX2_word_21 ?_
  refine lv_aload_n hx hb dX2_word_22 rfl (lv_at hl 0 rfl) ?_
  refine va_get (D := (dC, dI)) (ci := 2) (v := .ref al) (C := RX2) (T := TX2) (N := 14) hx hb hts (by decide +kernel) hown hK hP 0 rfl rfl 8 (by decide) (hts (.fieldLink RX2 99 "KeySumsModel" "block" "[I") (by decide +kernel)) (fun _ h9 => h9) rfl dX2_word_23 ?_
  refine lv_iconst (v := 4) hx hb dX2_word_26 (by decide) ?_
  refine lv_iload_n hx hb dX2_word_27 rfl (lv_at hl 1 rfl) ?_
  refine lv_imul hx hb dX2_word_28 ?_
  refine kz_top (y := nI (4 * k)) (pk_mul 4 k) ?_
  refine lv_iconst (v := 2) hx hb dX2_word_29 (by decide) ?_
  refine lv_iadd hx hb dX2_word_30 ?_
  refine kz_top (y := nI (4 * k + 2)) (nI_add (4 * k) 2) ?_
  refine kz_iald (j := (4 * k + 2)) hx hb hK hP 1 0 rfl rfl (show 4 * k + 2 < 64 by omega) (by decide) dX2_word_31 ?_
  refine lv_bipush (v := 16) hx hb dX2_word_32 (by decide) ?_
  refine lv_ishl hx hb dX2_word_34 ?_
  refine lv_ior hx hb dX2_word_35 ?_
  refine lv_aload_n hx hb dX2_word_36 rfl (lv_at hl 0 rfl) ?_
  refine va_get (D := (dC, dI)) (ci := 2) (v := .ref al) (C := RX2) (T := TX2) (N := 14) hx hb hts (by decide +kernel) hown hK hP 0 rfl rfl 8 (by decide) (hts (.fieldLink RX2 99 "KeySumsModel" "block" "[I") (by decide +kernel)) (fun _ h9 => h9) rfl dX2_word_37 ?_
  refine lv_iconst (v := 4) hx hb dX2_word_40 (by decide) ?_
  refine lv_iload_n hx hb dX2_word_41 rfl (lv_at hl 1 rfl) ?_
  refine lv_imul hx hb dX2_word_42 ?_
  refine kz_top (y := nI (4 * k)) (pk_mul 4 k) ?_
  refine lv_iconst (v := 3) hx hb dX2_word_43 (by decide) ?_
  refine lv_iadd hx hb dX2_word_44 ?_
  refine kz_top (y := nI (4 * k + 3)) (nI_add (4 * k) 3) ?_
  refine kz_iald (j := (4 * k + 3)) hx hb hK hP 1 0 rfl rfl (show 4 * k + 3 < 64 by omega) (by decide) dX2_word_45 ?_
  refine lv_bipush (v := 24) hx hb dX2_word_46 (by decide) ?_
  refine lv_ishl hx hb dX2_word_48 ?_
  refine lv_ior hx hb dX2_word_49 ?_
  exact W.iret (v := ((((bl (4 * k)) ||| ((bl (4 * k + 1)) <<< (8 &&& 31))) ||| ((bl (4 * k + 2)) <<< (16 &&& 31))) ||| ((bl (4 * k + 3)) <<< (24 &&& 31)))) hx hb hr (fun t ht hW => ⟨((((bl (4 * k)) ||| ((bl (4 * k + 1)) <<< (8 &&& 31))) ||| ((bl (4 * k + 2)) <<< (16 &&& 31))) ||| ((bl (4 * k + 3)) <<< (24 &&& 31))), rfl, rfl, ht⟩) (fun q h => by cases h) dX2_word_50

set_option maxHeartbeats 4000000 in
set_option maxRecDepth 100000 in
/-- mixed -/
theorem r_mixed (l : Launch) (dC : Nat → ClassId) (dI : Nat → Nat → Nat) (sz : Nat) (h ac au ab ae am ap ak al af an ar : Nat) (cJ : ClassId) (sz0 mm sm : Int32) (fn : Nat → Int32) (k : Nat) (hk : k < 4) : Met l yX2_mixed wsX2_mixed ({ frames := 0, cells := 0, slots := 0, locals := 0 }) (va_Pc [.ref h, .int (nI k)] (fun U => U.heap.size = sz ∧ va_P (dC, dI) vwCl [(h, .inr (2, [.ref ac, .ref au, .ref ab, .ref ae, .ref am, .ref ap, .int sz0, .ref ak, .ref al, .ref af, .ref an, .int mm, .ref ar, .int sm])), (an, .inl (cJ, 4, .inl fn))] U.heap ∧ va_K (dC, dI) vwCl [(cJ, .int)] U ∧ va_D (fun _ => True) [(h, .inr (2, [.ref ac, .ref au, .ref ab, .ref ae, .ref am, .ref ap, .int sz0, .ref ak, .ref al, .ref af, .ref an, .int mm, .ref ar, .int sm])), (an, .inl (cJ, 4, .inl fn))])) (vp_Si (fun r => r = ks_F k (fn 1) (fn 2) (fn 3))) 0 0 (fun _ => False) := by
  refine Met.ofW (cc := cX2_mixed) (maxL := 5) (ret := (some .int)) (by decide) rfl ?_
  intro p e s m args below meth c s₁ B hml hv
  obtain ⟨rfl, hsz, hP, hK, hD0⟩ := hv
  have hx := B.exec
  have hb := B.bytes
  have hr := B.returns
  have hts := atoms_spec (ws := wsX2_mixed) B.pre
  have hown : s.vm.findClass RX2 = some m.cls := findClass_of_methodNamed B.named
  have hlocks := B.notSynchronized
  subst hsz
  have hD := hD0.self (sz := s.heap.size)
  generalize hAe : va_A [(h, .inr (2, [.ref ac, .ref au, .ref ab, .ref ae, .ref am, .ref ap, .int sz0, .ref ak, .ref al, .ref af, .ref an, .int mm, .ref ar, .int sm])), (an, .inl (cJ, 4, .inl fn))] s.heap.size = A at hD  ⊢
  have hA : ∀ q : Nat, s.heap.size ≤ q → A q := fun q h => by rw [← hAe]; exact Or.inr h
  have hS : va_S A s.heap s.heap [] := va_S.rf
  have hP : va_P (dC, dI) vwCl [(h, .inr (2, [.ref ac, .ref au, .ref ab, .ref ae, .ref am, .ref ap, .int sz0, .ref ak, .ref al, .ref af, .ref an, .int mm, .ref ar, .int sm])), (an, .inl (cJ, 4, .inl fn))] s.heap := hP
  have hl := lv_entry ([.ref h, .int (nI k)]) (n := 5) (Nat.le_of_ble_eq_true rfl)
  rw [lg_entry_eq]
  generalize (lg_sl ([.ref h, .int (nI k)]) ++ List.replicate (5 - (lg_sl ([.ref h, .int (nI k)])).length) Slot.unset).toArray = ls at hl ⊢
  have hl : lv_has ls 5 [(0, .ref h), (1, .int (nI k))] := hl
  refine lv_aload_n hx hb dX2_mixed_0 rfl (lv_at hl 0 rfl) ?_
  refine va_get (D := (dC, dI)) (ci := 2) (v := .ref an) (C := RX2) (T := TX2) (N := 14) hx hb hts (by decide +kernel) hown hK hP 0 rfl rfl 10 (by decide) (hts (.fieldLink RX2 105 "KeySumsModel" "now" "[I") (by decide +kernel)) (fun _ h9 => h9) rfl dX2_mixed_1 ?_
  refine lv_iconst (v := 1) hx hb dX2_mixed_4 (by decide) ?_
  refine kz_top (y := nI 1) (by decide) ?_
  refine kz_iald (j := 1) hx hb hK hP 1 0 rfl rfl (show 1 < 4 by decide) (by decide) dX2_mixed_5 ?_
  refine lv_istore_n (lv' := [(2, .int (fn 1)), (0, .ref h), (1, .int (nI k))]) hx hb dX2_mixed_6 rfl hl (by decide) rfl (fun ls hl => ?_)
  refine lv_aload_n hx hb dX2_mixed_7 rfl (lv_at hl 1 rfl) ?_
  refine va_get (D := (dC, dI)) (ci := 2) (v := .ref an) (C := RX2) (T := TX2) (N := 14) hx hb hts (by decide +kernel) hown hK hP 0 rfl rfl 10 (by decide) (hts (.fieldLink RX2 105 "KeySumsModel" "now" "[I") (by decide +kernel)) (fun _ h9 => h9) rfl dX2_mixed_8 ?_
  refine lv_iconst (v := 2) hx hb dX2_mixed_11 (by decide) ?_
  refine kz_top (y := nI 2) (by decide) ?_
  refine kz_iald (j := 2) hx hb hK hP 1 0 rfl rfl (show 2 < 4 by decide) (by decide) dX2_mixed_12 ?_
  refine lv_istore_n (lv' := [(3, .int (fn 2)), (2, .int (fn 1)), (0, .ref h), (1, .int (nI k))]) hx hb dX2_mixed_13 rfl hl (by decide) rfl (fun ls hl => ?_)
  refine lv_aload_n hx hb dX2_mixed_14 rfl (lv_at hl 2 rfl) ?_
  refine va_get (D := (dC, dI)) (ci := 2) (v := .ref an) (C := RX2) (T := TX2) (N := 14) hx hb hts (by decide +kernel) hown hK hP 0 rfl rfl 10 (by decide) (hts (.fieldLink RX2 105 "KeySumsModel" "now" "[I") (by decide +kernel)) (fun _ h9 => h9) rfl dX2_mixed_15 ?_
  refine lv_iconst (v := 3) hx hb dX2_mixed_18 (by decide) ?_
  refine kz_top (y := nI 3) (by decide) ?_
  refine kz_iald (j := 3) hx hb hK hP 1 0 rfl rfl (show 3 < 4 by decide) (by decide) dX2_mixed_19 ?_
  refine lv_istore (lv' := [(4, .int (fn 3)), (3, .int (fn 2)), (2, .int (fn 1)), (0, .ref h), (1, .int (nI k))]) hx hb dX2_mixed_20 hl (by decide) rfl (fun ls hl => ?_)
  obtain rfl | rfl | rfl | rfl : k = 0 ∨ k = 1 ∨ k = 2 ∨ k = 3 := by omega
  · skip
    refine lv_iload_n hx hb dX2_mixed_22 rfl (lv_at hl 4 rfl) ?_
    refine lv_tableIn (off := 25) (tgt := 48) hx hb dX2_mixed_23 (by decide +kernel) (by decide +kernel) (by decide +kernel) (by decide) ?_
    refine lv_iload_n hx hb dX2_mixed_48 rfl (lv_at hl 2 rfl) ?_
    refine lv_iload_n hx hb dX2_mixed_49 rfl (lv_at hl 1 rfl) ?_
    refine lv_iand hx hb dX2_mixed_50 ?_
    refine lv_iload_n hx hb dX2_mixed_51 rfl (lv_at hl 2 rfl) ?_
    refine lv_iconst (v := (-1)) hx hb dX2_mixed_52 (by decide) ?_
    refine lv_ixor hx hb dX2_mixed_53 ?_
    refine lv_iload hx hb dX2_mixed_54 (lv_at hl 0 rfl) ?_
    refine lv_iand hx hb dX2_mixed_56 ?_
    refine lv_ior hx hb dX2_mixed_57 ?_
    exact W.iret (v := (((fn 1) &&& (fn 2)) ||| (((fn 1) ^^^ (-1)) &&& (fn 3)))) hx hb hr (fun t ht hW => ⟨(((fn 1) &&& (fn 2)) ||| (((fn 1) ^^^ (-1)) &&& (fn 3))), rfl, rfl, ht⟩) (fun q h => by cases h) dX2_mixed_58
  · skip
    refine lv_iload_n hx hb dX2_mixed_22 rfl (lv_at hl 4 rfl) ?_
    refine lv_tableIn (off := 36) (tgt := 59) hx hb dX2_mixed_23 (by decide +kernel) (by decide +kernel) (by decide +kernel) (by decide) ?_
    refine lv_iload hx hb dX2_mixed_59 (lv_at hl 0 rfl) ?_
    refine lv_iload_n hx hb dX2_mixed_61 rfl (lv_at hl 2 rfl) ?_
    refine lv_iand hx hb dX2_mixed_62 ?_
    refine lv_iload hx hb dX2_mixed_63 (lv_at hl 0 rfl) ?_
    refine lv_iconst (v := (-1)) hx hb dX2_mixed_65 (by decide) ?_
    refine lv_ixor hx hb dX2_mixed_66 ?_
    refine lv_iload_n hx hb dX2_mixed_67 rfl (lv_at hl 1 rfl) ?_
    refine lv_iand hx hb dX2_mixed_68 ?_
    refine lv_ior hx hb dX2_mixed_69 ?_
    exact W.iret (v := (((fn 3) &&& (fn 1)) ||| (((fn 3) ^^^ (-1)) &&& (fn 2)))) hx hb hr (fun t ht hW => ⟨(((fn 3) &&& (fn 1)) ||| (((fn 3) ^^^ (-1)) &&& (fn 2))), rfl, rfl, ht⟩) (fun q h => by cases h) dX2_mixed_70
  · skip
    refine lv_iload_n hx hb dX2_mixed_22 rfl (lv_at hl 4 rfl) ?_
    refine lv_tableIn (off := 48) (tgt := 71) hx hb dX2_mixed_23 (by decide +kernel) (by decide +kernel) (by decide +kernel) (by decide) ?_
    refine lv_iload_n hx hb dX2_mixed_71 rfl (lv_at hl 2 rfl) ?_
    refine lv_iload_n hx hb dX2_mixed_72 rfl (lv_at hl 1 rfl) ?_
    refine lv_ixor hx hb dX2_mixed_73 ?_
    refine lv_iload hx hb dX2_mixed_74 (lv_at hl 0 rfl) ?_
    refine lv_ixor hx hb dX2_mixed_76 ?_
    exact W.iret (v := (((fn 1) ^^^ (fn 2)) ^^^ (fn 3))) hx hb hr (fun t ht hW => ⟨(((fn 1) ^^^ (fn 2)) ^^^ (fn 3)), rfl, rfl, ht⟩) (fun q h => by cases h) dX2_mixed_77
  · skip
    refine lv_iload_n hx hb dX2_mixed_22 rfl (lv_at hl 4 rfl) ?_
    refine lv_tableOut (tgt := 78) hx hb dX2_mixed_23 (Or.inr (by decide +kernel)) (by decide) ?_
    refine lv_iload_n hx hb dX2_mixed_78 rfl (lv_at hl 1 rfl) ?_
    refine lv_iload_n hx hb dX2_mixed_79 rfl (lv_at hl 2 rfl) ?_
    refine lv_iload hx hb dX2_mixed_80 (lv_at hl 0 rfl) ?_
    refine lv_iconst (v := (-1)) hx hb dX2_mixed_82 (by decide) ?_
    refine lv_ixor hx hb dX2_mixed_83 ?_
    refine lv_ior hx hb dX2_mixed_84 ?_
    refine lv_ixor hx hb dX2_mixed_85 ?_
    exact W.iret (v := ((fn 2) ^^^ ((fn 1) ||| ((fn 3) ^^^ (-1))))) hx hb hr (fun t ht hW => ⟨((fn 2) ^^^ ((fn 1) ||| ((fn 3) ^^^ (-1)))), rfl, rfl, ht⟩) (fun q h => by cases h) dX2_mixed_86

theorem ks_gb {i : Nat} (hi : i < 64) : ks_tm (i / 16) * i + ks_mo (i / 16) < 2 ^ 31 := by
  have hk : i / 16 < 4 := by omega
  generalize i / 16 = k at hk ⊢
  obtain rfl | rfl | rfl | rfl : k = 0 ∨ k = 1 ∨ k = 2 ∨ k = 3 := by omega
  · show 1 * i + 0 < _
    omega
  · show 5 * i + 1 < _
    omega
  · show 3 * i + 5 < _
    omega
  · show 7 * i + 0 < _
    omega

set_option maxHeartbeats 4000000 in
set_option maxRecDepth 100000 in
/-- step -/
theorem r_step (l : Launch) (dC : Nat → ClassId) (dI : Nat → Nat → Nat) (sz : Nat) (h ac au ab ae am ap ak al af an ar : Nat) (cJ : ClassId) (sz0 mm sm : Int32) (bl fn : Nat → Int32) (i : Nat) (hi : i < 64) : Met l yX2_step wsX2_step ({ frames := 1, cells := 0, slots := 0, locals := 24 }) (va_Pc [.ref h, .int (nI i)] (fun U => U.heap.size = sz ∧ va_P (dC, dI) vwCl [(h, .inr (2, [.ref ac, .ref au, .ref ab, .ref ae, .ref am, .ref ap, .int sz0, .ref ak, .ref al, .ref af, .ref an, .int mm, .ref ar, .int sm])), (ac, .inl (cJ, 64, .inl ks_k)), (au, .inl (cJ, 16, .inl ks_tt)), (ae, .inl (cJ, 4, .inl ks_tmI)), (am, .inl (cJ, 4, .inl ks_moI)), (al, .inl (cJ, 64, .inl bl)), (an, .inl (cJ, 4, .inl fn))] U.heap ∧ va_K (dC, dI) vwCl [(cJ, .int)] U ∧ va_D (fun _ => True) [(h, .inr (2, [.ref ac, .ref au, .ref ab, .ref ae, .ref am, .ref ap, .int sz0, .ref ak, .ref al, .ref af, .ref an, .int mm, .ref ar, .int sm])), (ac, .inl (cJ, 64, .inl ks_k)), (au, .inl (cJ, 16, .inl ks_tt)), (ae, .inl (cJ, 4, .inl ks_tmI)), (am, .inl (cJ, 4, .inl ks_moI)), (al, .inl (cJ, 64, .inl bl)), (an, .inl (cJ, 4, .inl fn))])) (va_Qv (fun u : Nat → Int32 => ks_4 u = ks_st (ks_lw bl) i (ks_4 fn)) (fun (u : Nat → Int32) t => kz_B dC dI [(cJ, .int)] (va_A [(h, .inr (2, [.ref ac, .ref au, .ref ab, .ref ae, .ref am, .ref ap, .int sz0, .ref ak, .ref al, .ref af, .ref an, .int mm, .ref ar, .int sm])), (ac, .inl (cJ, 64, .inl ks_k)), (au, .inl (cJ, 16, .inl ks_tt)), (ae, .inl (cJ, 4, .inl ks_tmI)), (am, .inl (cJ, 4, .inl ks_moI)), (al, .inl (cJ, 64, .inl bl)), (an, .inl (cJ, 4, .inl fn))] sz) [(h, .inr (2, [.ref ac, .ref au, .ref ab, .ref ae, .ref am, .ref ap, .int sz0, .ref ak, .ref al, .ref af, .ref an, .int mm, .ref ar, .int sm])), (ac, .inl (cJ, 64, .inl ks_k)), (au, .inl (cJ, 16, .inl ks_tt)), (ae, .inl (cJ, 4, .inl ks_tmI)), (am, .inl (cJ, 4, .inl ks_moI)), (al, .inl (cJ, 64, .inl bl)), (an, .inl (cJ, 4, .inl u))] t) (va_A [(h, .inr (2, [.ref ac, .ref au, .ref ab, .ref ae, .ref am, .ref ap, .int sz0, .ref ak, .ref al, .ref af, .ref an, .int mm, .ref ar, .int sm])), (ac, .inl (cJ, 64, .inl ks_k)), (au, .inl (cJ, 16, .inl ks_tt)), (ae, .inl (cJ, 4, .inl ks_tmI)), (am, .inl (cJ, 4, .inl ks_moI)), (al, .inl (cJ, 64, .inl bl)), (an, .inl (cJ, 4, .inl fn))] sz)) 0 0 (va_A [(h, .inr (2, [.ref ac, .ref au, .ref ab, .ref ae, .ref am, .ref ap, .int sz0, .ref ak, .ref al, .ref af, .ref an, .int mm, .ref ar, .int sm])), (ac, .inl (cJ, 64, .inl ks_k)), (au, .inl (cJ, 16, .inl ks_tt)), (ae, .inl (cJ, 4, .inl ks_tmI)), (am, .inl (cJ, 4, .inl ks_moI)), (al, .inl (cJ, 64, .inl bl)), (an, .inl (cJ, 4, .inl fn))] sz) := by
  refine Met.ofW (cc := cX2_step) (maxL := 5) (ret := none) (by decide) rfl ?_
  intro p e s m args below meth c s₁ B hml hv
  obtain ⟨rfl, hsz, hP, hK, hD0⟩ := hv
  have hx := B.exec
  have hb := B.bytes
  have hr := B.returns
  have hts := atoms_spec (ws := wsX2_step) B.pre
  have hown : s.vm.findClass RX2 = some m.cls := findClass_of_methodNamed B.named
  have hlocks := B.notSynchronized
  subst hsz
  have hD := hD0.self (sz := s.heap.size)
  generalize hAe : va_A [(h, .inr (2, [.ref ac, .ref au, .ref ab, .ref ae, .ref am, .ref ap, .int sz0, .ref ak, .ref al, .ref af, .ref an, .int mm, .ref ar, .int sm])), (ac, .inl (cJ, 64, .inl ks_k)), (au, .inl (cJ, 16, .inl ks_tt)), (ae, .inl (cJ, 4, .inl ks_tmI)), (am, .inl (cJ, 4, .inl ks_moI)), (al, .inl (cJ, 64, .inl bl)), (an, .inl (cJ, 4, .inl fn))] s.heap.size = A at hD  ⊢
  have hA : ∀ q : Nat, s.heap.size ≤ q → A q := fun q h => by rw [← hAe]; exact Or.inr h
  have hS : va_S A s.heap s.heap [] := va_S.rf
  have hP : va_P (dC, dI) vwCl [(h, .inr (2, [.ref ac, .ref au, .ref ab, .ref ae, .ref am, .ref ap, .int sz0, .ref ak, .ref al, .ref af, .ref an, .int mm, .ref ar, .int sm])), (ac, .inl (cJ, 64, .inl ks_k)), (au, .inl (cJ, 16, .inl ks_tt)), (ae, .inl (cJ, 4, .inl ks_tmI)), (am, .inl (cJ, 4, .inl ks_moI)), (al, .inl (cJ, 64, .inl bl)), (an, .inl (cJ, 4, .inl fn))] s.heap := hP
  have hl := lv_entry ([.ref h, .int (nI i)]) (n := 5) (Nat.le_of_ble_eq_true rfl)
  rw [lg_entry_eq]
  generalize (lg_sl ([.ref h, .int (nI i)]) ++ List.replicate (5 - (lg_sl ([.ref h, .int (nI i)])).length) Slot.unset).toArray = ls at hl ⊢
  have hl : lv_has ls 5 [(0, .ref h), (1, .int (nI i))] := hl
  refine lv_iload_n hx hb dX2_step_0 rfl (lv_at hl 1 rfl) ?_
  refine lv_bipush (v := 16) hx hb dX2_step_1 (by decide) ?_
  refine lv_idiv hx hb dX2_step_3 (by decide) ?_
  refine kz_top (y := nI (i / 16)) (pk_div (d := 16) (by omega) (by decide) (by decide)) ?_
  refine lv_istore_n (lv' := [(2, .int (nI (i / 16))), (0, .ref h), (1, .int (nI i))]) hx hb dX2_step_4 rfl hl (by decide) rfl (fun ls hl => ?_)
  refine lv_aload_n hx hb dX2_step_5 rfl (lv_at hl 1 rfl) ?_
  refine va_get (D := (dC, dI)) (ci := 2) (v := .ref au) (C := RX2) (T := TX2) (N := 14) hx hb hts (by decide +kernel) hown hK hP 0 rfl rfl 1 (by decide) (hts (.fieldLink RX2 77 "KeySumsModel" "turns" "[I") (by decide +kernel)) (fun _ h9 => h9) rfl dX2_step_6 ?_
  refine lv_iconst (v := 4) hx hb dX2_step_9 (by decide) ?_
  refine lv_iload_n hx hb dX2_step_10 rfl (lv_at hl 0 rfl) ?_
  refine lv_imul hx hb dX2_step_11 ?_
  refine kz_top (y := nI (4 * (i / 16))) (pk_mul 4 (i / 16)) ?_
  refine lv_iload_n hx hb dX2_step_12 rfl (lv_at hl 2 rfl) ?_
  refine lv_iconst (v := 4) hx hb dX2_step_13 (by decide) ?_
  refine lv_irem hx hb dX2_step_14 (by decide) ?_
  refine kz_top (y := nI (i % 4)) (pk_rem (d := 4) (by omega) (by decide) (by decide)) ?_
  refine lv_iadd hx hb dX2_step_15 ?_
  refine kz_top (y := nI (4 * (i / 16) + i % 4)) (nI_add _ _) ?_
  refine kz_iald (j := (4 * (i / 16) + i % 4)) hx hb hK hP 2 0 rfl rfl (show 4 * (i / 16) + i % 4 < 16 by omega) (by decide) dX2_step_16 ?_
  refine kz_top (y := ks_t i) rfl ?_
  refine lv_istore_n (lv' := [(3, .int (ks_t i)), (2, .int (nI (i / 16))), (0, .ref h), (1, .int (nI i))]) hx hb dX2_step_17 rfl hl (by decide) rfl (fun ls hl => ?_)
  refine lv_aload_n hx hb dX2_step_18 rfl (lv_at hl 2 rfl) ?_
  refine va_get (D := (dC, dI)) (ci := 2) (v := .ref an) (C := RX2) (T := TX2) (N := 14) hx hb hts (by decide +kernel) hown hK hP 0 rfl rfl 10 (by decide) (hts (.fieldLink RX2 105 "KeySumsModel" "now" "[I") (by decide +kernel)) (fun _ h9 => h9) rfl dX2_step_19 ?_
  refine lv_iconst (v := 0) hx hb dX2_step_22 (by decide) ?_
  refine kz_top (y := nI 0) (by decide) ?_
  refine kz_iald (j := 0) hx hb hK hP 6 0 rfl rfl (show 0 < 4 by decide) (by decide) dX2_step_23 ?_
  refine lv_aload_n hx hb dX2_step_24 rfl (lv_at hl 2 rfl) ?_
  refine lv_iload_n hx hb dX2_step_25 rfl (lv_at hl 1 rfl) ?_
  have hPc := hP.sub (ws' := [(h, .inr (2, [.ref ac, .ref au, .ref ab, .ref ae, .ref am, .ref ap, .int sz0, .ref ak, .ref al, .ref af, .ref an, .int mm, .ref ar, .int sm])), (an, .inl (cJ, 4, .inl fn))]) [0, 6] rfl
  have hDc := hD.sub (ws' := [(h, .inr (2, [.ref ac, .ref au, .ref ab, .ref ae, .ref am, .ref ap, .int sz0, .ref ak, .ref al, .ref af, .ref an, .int mm, .ref ar, .int sm])), (an, .inl (cJ, 4, .inl fn))]) [0, 6] (by decide) rfl
  have hKc := hK.sub (tys' := [(cJ, .int)]) [0] rfl
  have hFc := va_free (wc := [(h, .inr (2, [.ref ac, .ref au, .ref ab, .ref ae, .ref am, .ref ap, .int sz0, .ref ak, .ref al, .ref af, .ref an, .int mm, .ref ar, .int sm])), (an, .inl (cJ, 4, .inl fn))]) hD hS hA [0, 6] rfl
  refine vp_callSi (va_runV (As := [.int (nI (i / 16))]) (rest := [.int (fn 0)]) ⟨hx, hb, hml, hown, hts⟩ (r_mixed l dC dI s.heap.size h ac au ab ae am ap ak al af an ar cJ sz0 mm sm fn (i / 16) (by omega)) (cwV 1 hts gX2_step_X2_mixed rfl rfl rfl (by decide +kernel) ⟨Nat.le_of_ble_eq_true rfl, Nat.le_of_ble_eq_true rfl⟩) ⟨fun a U g mk q => by obtain ⟨q0, q1, qP, qK, qD⟩ := q; exact ⟨q0, q1, qP, va_K.moved (u := U) (U := U.calling g mk a) (Vm.Alike.refl U.vm) qK, qD⟩, va_recv hKc hPc (ci := 2) (q0 := 0) rfl rfl, fun U hU hW => ⟨rfl, by rw [hU], by rw [hU]; exact hPc, va_K.moved hW.alike hKc, hDc.weaken (fun _ _ _ _ => trivial)⟩⟩ rfl rfl hl.1 rfl (lv_room (Nat.le_of_ble_eq_true rfl)) dX2_step_26 ⟨Nat.zero_le _, Nat.zero_le _⟩).run (fun r hw => ?_)
  subst hw
  refine lv_iadd hx hb dX2_step_29 ?_
  refine lv_aload_n hx hb dX2_step_30 rfl (lv_at hl 2 rfl) ?_
  refine va_get (D := (dC, dI)) (ci := 2) (v := .ref ac) (C := RX2) (T := TX2) (N := 14) hx hb hts (by decide +kernel) hown hK hP 0 rfl rfl 0 (by decide) (hts (.fieldLink RX2 71 "KeySumsModel" "constant" "[I") (by decide +kernel)) (fun _ h9 => h9) rfl dX2_step_31 ?_
  refine lv_iload_n hx hb dX2_step_34 rfl (lv_at hl 3 rfl) ?_
  refine kz_iald (j := i) hx hb hK hP 1 0 rfl rfl (hi) (by decide) dX2_step_35 ?_
  refine lv_iadd hx hb dX2_step_36 ?_
  refine lv_aload_n hx hb dX2_step_37 rfl (lv_at hl 2 rfl) ?_
  refine lv_aload_n hx hb dX2_step_38 rfl (lv_at hl 2 rfl) ?_
  refine va_get (D := (dC, dI)) (ci := 2) (v := .ref ae) (C := RX2) (T := TX2) (N := 14) hx hb hts (by decide +kernel) hown hK hP 0 rfl rfl 3 (by decide) (hts (.fieldLink RX2 87 "KeySumsModel" "times" "[I") (by decide +kernel)) (fun _ h9 => h9) rfl dX2_step_39 ?_
  refine lv_iload_n hx hb dX2_step_42 rfl (lv_at hl 1 rfl) ?_
  refine kz_iald (j := (i / 16)) hx hb hK hP 3 0 rfl rfl (show i / 16 < 4 by omega) (by decide) dX2_step_43 ?_
  refine kz_top (y := nI (ks_tm (i / 16))) rfl ?_
  refine lv_iload_n hx hb dX2_step_44 rfl (lv_at hl 3 rfl) ?_
  refine lv_imul hx hb dX2_step_45 ?_
  refine kz_top (y := nI (ks_tm (i / 16) * i)) (pk_mul _ _) ?_
  refine lv_aload_n hx hb dX2_step_46 rfl (lv_at hl 2 rfl) ?_
  refine va_get (D := (dC, dI)) (ci := 2) (v := .ref am) (C := RX2) (T := TX2) (N := 14) hx hb hts (by decide +kernel) hown hK hP 0 rfl rfl 4 (by decide) (hts (.fieldLink RX2 90 "KeySumsModel" "more" "[I") (by decide +kernel)) (fun _ h9 => h9) rfl dX2_step_47 ?_
  refine lv_iload_n hx hb dX2_step_50 rfl (lv_at hl 1 rfl) ?_
  refine kz_iald (j := (i / 16)) hx hb hK hP 4 0 rfl rfl (show i / 16 < 4 by omega) (by decide) dX2_step_51 ?_
  refine kz_top (y := nI (ks_mo (i / 16))) rfl ?_
  refine lv_iadd hx hb dX2_step_52 ?_
  refine kz_top (y := nI (ks_tm (i / 16) * i + ks_mo (i / 16))) (nI_add _ _) ?_
  have hgb : ks_tm (i / 16) * i + ks_mo (i / 16) < 2 ^ 31 := ks_gb hi
  refine lv_bipush (v := 16) hx hb dX2_step_53 (by decide) ?_
  refine lv_irem hx hb dX2_step_55 (by decide) ?_
  refine kz_top (y := nI (ks_g i)) (by rw [← ks_gg hi]; exact pk_rem (d := 16) hgb (by decide) (by decide)) ?_
  have hPc := hP.sub (ws' := [(h, .inr (2, [.ref ac, .ref au, .ref ab, .ref ae, .ref am, .ref ap, .int sz0, .ref ak, .ref al, .ref af, .ref an, .int mm, .ref ar, .int sm])), (al, .inl (cJ, 64, .inl bl))]) [0, 5] rfl
  have hDc := hD.sub (ws' := [(h, .inr (2, [.ref ac, .ref au, .ref ab, .ref ae, .ref am, .ref ap, .int sz0, .ref ak, .ref al, .ref af, .ref an, .int mm, .ref ar, .int sm])), (al, .inl (cJ, 64, .inl bl))]) [0, 5] (by decide) rfl
  have hKc := hK.sub (tys' := [(cJ, .int)]) [0] rfl
  have hFc := va_free (wc := [(h, .inr (2, [.ref ac, .ref au, .ref ab, .ref ae, .ref am, .ref ap, .int sz0, .ref ak, .ref al, .ref af, .ref an, .int mm, .ref ar, .int sm])), (al, .inl (cJ, 64, .inl bl))]) hD hS hA [0, 5] rfl
  refine vp_callSi (va_runV (As := [.int (nI (ks_g i))]) (rest := [.int (((fn 0) + (ks_F (i / 16) (fn 1) (fn 2) (fn 3))) + (ks_k i))]) ⟨hx, hb, hml, hown, hts⟩ (r_word l dC dI s.heap.size h ac au ab ae am ap ak al af an ar cJ sz0 mm sm bl (ks_g i) (ks_g_lt i)) (cwV 1 hts gX2_step_X2_word rfl rfl rfl (by decide +kernel) ⟨Nat.le_of_ble_eq_true rfl, Nat.le_of_ble_eq_true rfl⟩) ⟨fun a U g mk q => by obtain ⟨q0, q1, qP, qK, qD⟩ := q; exact ⟨q0, q1, qP, va_K.moved (u := U) (U := U.calling g mk a) (Vm.Alike.refl U.vm) qK, qD⟩, va_recv hKc hPc (ci := 2) (q0 := 0) rfl rfl, fun U hU hW => ⟨rfl, by rw [hU], by rw [hU]; exact hPc, va_K.moved hW.alike hKc, hDc.weaken (fun _ _ _ _ => trivial)⟩⟩ rfl rfl hl.1 rfl (lv_room (Nat.le_of_ble_eq_true rfl)) dX2_step_56 ⟨Nat.zero_le _, Nat.zero_le _⟩).run (fun r hw => ?_)
  subst hw
  refine lv_iadd hx hb dX2_step_59 ?_
  refine lv_topi (fun xx hxx => ?_)
  refine lv_istore (lv' := [(4, .int xx), (3, .int (ks_t i)), (2, .int (nI (i / 16))), (0, .ref h), (1, .int (nI i))]) hx hb dX2_step_60 hl (by decide) rfl (fun ls hl => ?_)
  refine lv_aload_n hx hb dX2_step_62 rfl (lv_at hl 3 rfl) ?_
  refine va_get (D := (dC, dI)) (ci := 2) (v := .ref an) (C := RX2) (T := TX2) (N := 14) hx hb hts (by decide +kernel) hown hK hP 0 rfl rfl 10 (by decide) (hts (.fieldLink RX2 105 "KeySumsModel" "now" "[I") (by decide +kernel)) (fun _ h9 => h9) rfl dX2_step_63 ?_
  refine lv_iconst (v := 0) hx hb dX2_step_66 (by decide) ?_
  refine kz_top (y := nI 0) (by decide) ?_
  refine lv_aload_n hx hb dX2_step_67 rfl (lv_at hl 3 rfl) ?_
  refine va_get (D := (dC, dI)) (ci := 2) (v := .ref an) (C := RX2) (T := TX2) (N := 14) hx hb hts (by decide +kernel) hown hK hP 0 rfl rfl 10 (by decide) (hts (.fieldLink RX2 105 "KeySumsModel" "now" "[I") (by decide +kernel)) (fun _ h9 => h9) rfl dX2_step_68 ?_
  refine lv_iconst (v := 3) hx hb dX2_step_71 (by decide) ?_
  refine kz_top (y := nI 3) (by decide) ?_
  refine kz_iald (j := 3) hx hb hK hP 6 0 rfl rfl (show 3 < 4 by decide) (by decide) dX2_step_72 ?_
  refine kz_iast (j := 0) hx hb hK hP hD hS 6 0 rfl rfl (show 0 < 4 by decide) (by decide) dX2_step_73 (fun H locs hP hD hS => ?_)
  have hP : va_P (dC, dI) vwCl [(h, .inr (2, [.ref ac, .ref au, .ref ab, .ref ae, .ref am, .ref ap, .int sz0, .ref ak, .ref al, .ref af, .ref an, .int mm, .ref ar, .int sm])), (ac, .inl (cJ, 64, .inl ks_k)), (au, .inl (cJ, 16, .inl ks_tt)), (ae, .inl (cJ, 4, .inl ks_tmI)), (am, .inl (cJ, 4, .inl ks_moI)), (al, .inl (cJ, 64, .inl bl)), (an, .inl (cJ, 4, .inl (upd fn 0 (fn 3))))] H := hP
  have hD : va_D A [(h, .inr (2, [.ref ac, .ref au, .ref ab, .ref ae, .ref am, .ref ap, .int sz0, .ref ak, .ref al, .ref af, .ref an, .int mm, .ref ar, .int sm])), (ac, .inl (cJ, 64, .inl ks_k)), (au, .inl (cJ, 16, .inl ks_tt)), (ae, .inl (cJ, 4, .inl ks_tmI)), (am, .inl (cJ, 4, .inl ks_moI)), (al, .inl (cJ, 64, .inl bl)), (an, .inl (cJ, 4, .inl (upd fn 0 (fn 3))))] := hD
  refine lv_aload_n hx hb dX2_step_74 rfl (lv_at hl 3 rfl) ?_
  refine va_get (D := (dC, dI)) (ci := 2) (v := .ref an) (C := RX2) (T := TX2) (N := 14) hx hb hts (by decide +kernel) hown hK hP 0 rfl rfl 10 (by decide) (hts (.fieldLink RX2 105 "KeySumsModel" "now" "[I") (by decide +kernel)) (fun _ h9 => h9) rfl dX2_step_75 ?_
  refine lv_iconst (v := 3) hx hb dX2_step_78 (by decide) ?_
  refine kz_top (y := nI 3) (by decide) ?_
  refine lv_aload_n hx hb dX2_step_79 rfl (lv_at hl 3 rfl) ?_
  refine va_get (D := (dC, dI)) (ci := 2) (v := .ref an) (C := RX2) (T := TX2) (N := 14) hx hb hts (by decide +kernel) hown hK hP 0 rfl rfl 10 (by decide) (hts (.fieldLink RX2 105 "KeySumsModel" "now" "[I") (by decide +kernel)) (fun _ h9 => h9) rfl dX2_step_80 ?_
  refine lv_iconst (v := 2) hx hb dX2_step_83 (by decide) ?_
  refine kz_top (y := nI 2) (by decide) ?_
  refine kz_iald (j := 2) hx hb hK hP 6 0 rfl rfl (show 2 < 4 by decide) (by decide) dX2_step_84 ?_
  refine kz_iast (j := 3) hx hb hK hP hD hS 6 0 rfl rfl (show 3 < 4 by decide) (by decide) dX2_step_85 (fun H locs hP hD hS => ?_)
  have hP : va_P (dC, dI) vwCl [(h, .inr (2, [.ref ac, .ref au, .ref ab, .ref ae, .ref am, .ref ap, .int sz0, .ref ak, .ref al, .ref af, .ref an, .int mm, .ref ar, .int sm])), (ac, .inl (cJ, 64, .inl ks_k)), (au, .inl (cJ, 16, .inl ks_tt)), (ae, .inl (cJ, 4, .inl ks_tmI)), (am, .inl (cJ, 4, .inl ks_moI)), (al, .inl (cJ, 64, .inl bl)), (an, .inl (cJ, 4, .inl (upd (upd fn 0 (fn 3)) 3 ((upd fn 0 (fn 3)) 2))))] H := hP
  have hD : va_D A [(h, .inr (2, [.ref ac, .ref au, .ref ab, .ref ae, .ref am, .ref ap, .int sz0, .ref ak, .ref al, .ref af, .ref an, .int mm, .ref ar, .int sm])), (ac, .inl (cJ, 64, .inl ks_k)), (au, .inl (cJ, 16, .inl ks_tt)), (ae, .inl (cJ, 4, .inl ks_tmI)), (am, .inl (cJ, 4, .inl ks_moI)), (al, .inl (cJ, 64, .inl bl)), (an, .inl (cJ, 4, .inl (upd (upd fn 0 (fn 3)) 3 ((upd fn 0 (fn 3)) 2))))] := hD
  refine lv_aload_n hx hb dX2_step_86 rfl (lv_at hl 3 rfl) ?_
  refine va_get (D := (dC, dI)) (ci := 2) (v := .ref an) (C := RX2) (T := TX2) (N := 14) hx hb hts (by decide +kernel) hown hK hP 0 rfl rfl 10 (by decide) (hts (.fieldLink RX2 105 "KeySumsModel" "now" "[I") (by decide +kernel)) (fun _ h9 => h9) rfl dX2_step_87 ?_
  refine lv_iconst (v := 2) hx hb dX2_step_90 (by decide) ?_
  refine kz_top (y := nI 2) (by decide) ?_
  refine lv_aload_n hx hb dX2_step_91 rfl (lv_at hl 3 rfl) ?_
  refine va_get (D := (dC, dI)) (ci := 2) (v := .ref an) (C := RX2) (T := TX2) (N := 14) hx hb hts (by decide +kernel) hown hK hP 0 rfl rfl 10 (by decide) (hts (.fieldLink RX2 105 "KeySumsModel" "now" "[I") (by decide +kernel)) (fun _ h9 => h9) rfl dX2_step_92 ?_
  refine lv_iconst (v := 1) hx hb dX2_step_95 (by decide) ?_
  refine kz_top (y := nI 1) (by decide) ?_
  refine kz_iald (j := 1) hx hb hK hP 6 0 rfl rfl (show 1 < 4 by decide) (by decide) dX2_step_96 ?_
  refine kz_iast (j := 2) hx hb hK hP hD hS 6 0 rfl rfl (show 2 < 4 by decide) (by decide) dX2_step_97 (fun H locs hP hD hS => ?_)
  have hP : va_P (dC, dI) vwCl [(h, .inr (2, [.ref ac, .ref au, .ref ab, .ref ae, .ref am, .ref ap, .int sz0, .ref ak, .ref al, .ref af, .ref an, .int mm, .ref ar, .int sm])), (ac, .inl (cJ, 64, .inl ks_k)), (au, .inl (cJ, 16, .inl ks_tt)), (ae, .inl (cJ, 4, .inl ks_tmI)), (am, .inl (cJ, 4, .inl ks_moI)), (al, .inl (cJ, 64, .inl bl)), (an, .inl (cJ, 4, .inl (upd (upd (upd fn 0 (fn 3)) 3 ((upd fn 0 (fn 3)) 2)) 2 ((upd (upd fn 0 (fn 3)) 3 ((upd fn 0 (fn 3)) 2)) 1))))] H := hP
  have hD : va_D A [(h, .inr (2, [.ref ac, .ref au, .ref ab, .ref ae, .ref am, .ref ap, .int sz0, .ref ak, .ref al, .ref af, .ref an, .int mm, .ref ar, .int sm])), (ac, .inl (cJ, 64, .inl ks_k)), (au, .inl (cJ, 16, .inl ks_tt)), (ae, .inl (cJ, 4, .inl ks_tmI)), (am, .inl (cJ, 4, .inl ks_moI)), (al, .inl (cJ, 64, .inl bl)), (an, .inl (cJ, 4, .inl (upd (upd (upd fn 0 (fn 3)) 3 ((upd fn 0 (fn 3)) 2)) 2 ((upd (upd fn 0 (fn 3)) 3 ((upd fn 0 (fn 3)) 2)) 1))))] := hD
  refine lv_aload_n hx hb dX2_step_98 rfl (lv_at hl 3 rfl) ?_
  refine va_get (D := (dC, dI)) (ci := 2) (v := .ref an) (C := RX2) (T := TX2) (N := 14) hx hb hts (by decide +kernel) hown hK hP 0 rfl rfl 10 (by decide) (hts (.fieldLink RX2 105 "KeySumsModel" "now" "[I") (by decide +kernel)) (fun _ h9 => h9) rfl dX2_step_99 ?_
  refine lv_iconst (v := 1) hx hb dX2_step_102 (by decide) ?_
  refine kz_top (y := nI 1) (by decide) ?_
  refine lv_aload_n hx hb dX2_step_103 rfl (lv_at hl 3 rfl) ?_
  refine va_get (D := (dC, dI)) (ci := 2) (v := .ref an) (C := RX2) (T := TX2) (N := 14) hx hb hts (by decide +kernel) hown hK hP 0 rfl rfl 10 (by decide) (hts (.fieldLink RX2 105 "KeySumsModel" "now" "[I") (by decide +kernel)) (fun _ h9 => h9) rfl dX2_step_104 ?_
  refine lv_iconst (v := 1) hx hb dX2_step_107 (by decide) ?_
  refine kz_top (y := nI 1) (by decide) ?_
  refine kz_iald (j := 1) hx hb hK hP 6 0 rfl rfl (show 1 < 4 by decide) (by decide) dX2_step_108 ?_
  refine lv_iload hx hb dX2_step_109 (lv_at hl 0 rfl) ?_
  refine lv_iload_n hx hb dX2_step_111 rfl (lv_at hl 1 rfl) ?_
  refine lv_ishl hx hb dX2_step_112 ?_
  refine lv_iload hx hb dX2_step_113 (lv_at hl 0 rfl) ?_
  refine lv_bipush (v := 32) hx hb dX2_step_115 (by decide) ?_
  refine lv_iload_n hx hb dX2_step_117 rfl (lv_at hl 1 rfl) ?_
  refine lv_isub hx hb dX2_step_118 ?_
  refine lv_iushr (v := ks_us xx (32 - (ks_t i))) hx hb dX2_step_119 rfl ?_
  refine lv_ior hx hb dX2_step_120 ?_
  refine lv_iadd hx hb dX2_step_121 ?_
  refine kz_iast (j := 1) hx hb hK hP hD hS 6 0 rfl rfl (show 1 < 4 by decide) (by decide) dX2_step_122 (fun H locs hP hD hS => ?_)
  have hP : va_P (dC, dI) vwCl [(h, .inr (2, [.ref ac, .ref au, .ref ab, .ref ae, .ref am, .ref ap, .int sz0, .ref ak, .ref al, .ref af, .ref an, .int mm, .ref ar, .int sm])), (ac, .inl (cJ, 64, .inl ks_k)), (au, .inl (cJ, 16, .inl ks_tt)), (ae, .inl (cJ, 4, .inl ks_tmI)), (am, .inl (cJ, 4, .inl ks_moI)), (al, .inl (cJ, 64, .inl bl)), (an, .inl (cJ, 4, .inl (upd (upd (upd (upd fn 0 (fn 3)) 3 ((upd fn 0 (fn 3)) 2)) 2 ((upd (upd fn 0 (fn 3)) 3 ((upd fn 0 (fn 3)) 2)) 1)) 1 (((upd (upd (upd fn 0 (fn 3)) 3 ((upd fn 0 (fn 3)) 2)) 2 ((upd (upd fn 0 (fn 3)) 3 ((upd fn 0 (fn 3)) 2)) 1)) 1) + ((xx <<< ((ks_t i) &&& 31)) ||| (ks_us xx (32 - (ks_t i))))))))] H := hP
  have hD : va_D A [(h, .inr (2, [.ref ac, .ref au, .ref ab, .ref ae, .ref am, .ref ap, .int sz0, .ref ak, .ref al, .ref af, .ref an, .int mm, .ref ar, .int sm])), (ac, .inl (cJ, 64, .inl ks_k)), (au, .inl (cJ, 16, .inl ks_tt)), (ae, .inl (cJ, 4, .inl ks_tmI)), (am, .inl (cJ, 4, .inl ks_moI)), (al, .inl (cJ, 64, .inl bl)), (an, .inl (cJ, 4, .inl (upd (upd (upd (upd fn 0 (fn 3)) 3 ((upd fn 0 (fn 3)) 2)) 2 ((upd (upd fn 0 (fn 3)) 3 ((upd fn 0 (fn 3)) 2)) 1)) 1 (((upd (upd (upd fn 0 (fn 3)) 3 ((upd fn 0 (fn 3)) 2)) 2 ((upd (upd fn 0 (fn 3)) 3 ((upd fn 0 (fn 3)) 2)) 1)) 1) + ((xx <<< ((ks_t i) &&& 31)) ||| (ks_us xx (32 - (ks_t i))))))))] := hD
  have hfin : ks_4 (upd (upd (upd (upd fn 0 (fn 3)) 3 ((upd fn 0 (fn 3)) 2)) 2 ((upd (upd fn 0 (fn 3)) 3 ((upd fn 0 (fn 3)) 2)) 1)) 1 (((upd (upd (upd fn 0 (fn 3)) 3 ((upd fn 0 (fn 3)) 2)) 2 ((upd (upd fn 0 (fn 3)) 3 ((upd fn 0 (fn 3)) 2)) 1)) 1) + ((xx <<< ((ks_t i) &&& 31)) ||| (ks_us xx (32 - (ks_t i)))))) = ks_st (ks_lw bl) i (ks_4 fn) := by rw [hxx]; rfl
  have hP9 := hP.sub (ws' := [(h, .inr (2, [.ref ac, .ref au, .ref ab, .ref ae, .ref am, .ref ap, .int sz0, .ref ak, .ref al, .ref af, .ref an, .int mm, .ref ar, .int sm])), (ac, .inl (cJ, 64, .inl ks_k)), (au, .inl (cJ, 16, .inl ks_tt)), (ae, .inl (cJ, 4, .inl ks_tmI)), (am, .inl (cJ, 4, .inl ks_moI)), (al, .inl (cJ, 64, .inl bl)), (an, .inl (cJ, 4, .inl (upd (upd (upd (upd fn 0 (fn 3)) 3 ((upd fn 0 (fn 3)) 2)) 2 ((upd (upd fn 0 (fn 3)) 3 ((upd fn 0 (fn 3)) 2)) 1)) 1 (((upd (upd (upd fn 0 (fn 3)) 3 ((upd fn 0 (fn 3)) 2)) 2 ((upd (upd fn 0 (fn 3)) 3 ((upd fn 0 (fn 3)) 2)) 1)) 1) + ((xx <<< ((ks_t i) &&& 31)) ||| (ks_us xx (32 - (ks_t i))))))))]) [0, 1, 2, 3, 4, 5, 6] rfl
  have hD9 := hD.sub (ws' := [(h, .inr (2, [.ref ac, .ref au, .ref ab, .ref ae, .ref am, .ref ap, .int sz0, .ref ak, .ref al, .ref af, .ref an, .int mm, .ref ar, .int sm])), (ac, .inl (cJ, 64, .inl ks_k)), (au, .inl (cJ, 16, .inl ks_tt)), (ae, .inl (cJ, 4, .inl ks_tmI)), (am, .inl (cJ, 4, .inl ks_moI)), (al, .inl (cJ, 64, .inl bl)), (an, .inl (cJ, 4, .inl (upd (upd (upd (upd fn 0 (fn 3)) 3 ((upd fn 0 (fn 3)) 2)) 2 ((upd (upd fn 0 (fn 3)) 3 ((upd fn 0 (fn 3)) 2)) 1)) 1 (((upd (upd (upd fn 0 (fn 3)) 3 ((upd fn 0 (fn 3)) 2)) 2 ((upd (upd fn 0 (fn 3)) 3 ((upd fn 0 (fn 3)) 2)) 1)) 1) + ((xx <<< ((ks_t i) &&& 31)) ||| (ks_us xx (32 - (ks_t i))))))))]) [0, 1, 2, 3, 4, 5, 6] (by decide) rfl
  have hK9 := hK.sub (tys' := [(cJ, .int)]) [0] rfl
  exact W.vret hx hb hr (fun t ht hW => ⟨⟨_, rfl, hfin, by rw [ht]; exact hP9, va_K.moved hW.alike hK9, hD9⟩, hS.F ht⟩) hS.2.2 dX2_step_123
end
section
set_option maxHeartbeats 4000000 in
set_option maxRecDepth 100000 in
/-- come: one byte more -/
theorem r_come (l : Launch) (dC : Nat → ClassId) (dI : Nat → Nat → Nat) (sz : Nat) (h ac au ab ae am ap ak al af an ar : Nat) (cJ : ClassId) (sz0 sm : Int32) (n : Nat) (bl fr fn f : Nat → Int32) (x : Int32) (hn : n + 1 < 2 ^ 31) (hi : rf_inv f n bl fr) (hfx : f n &&& 255 = x &&& 255) : Met l yX2_come wsX2_come ({ frames := 2, cells := 0, slots := 0, locals := 60 }) (va_Pc [.ref h, .int x] (fun U => U.heap.size = sz ∧ va_P (dC, dI) vwCl [(h, .inr (2, [.ref ac, .ref au, .ref ab, .ref ae, .ref am, .ref ap, .int sz0, .ref ak, .ref al, .ref af, .ref an, .int (nI n), .ref ar, .int sm])), (ac, .inl (cJ, 64, .inl ks_k)), (au, .inl (cJ, 16, .inl ks_tt)), (ae, .inl (cJ, 4, .inl ks_tmI)), (am, .inl (cJ, 4, .inl ks_moI)), (al, .inl (cJ, 64, .inl bl)), (af, .inl (cJ, 4, .inl fr)), (an, .inl (cJ, 4, .inl fn))] U.heap ∧ va_K (dC, dI) vwCl [(cJ, .int)] U ∧ va_D (fun _ => True) [(h, .inr (2, [.ref ac, .ref au, .ref ab, .ref ae, .ref am, .ref ap, .int sz0, .ref ak, .ref al, .ref af, .ref an, .int (nI n), .ref ar, .int sm])), (ac, .inl (cJ, 64, .inl ks_k)), (au, .inl (cJ, 16, .inl ks_tt)), (ae, .inl (cJ, 4, .inl ks_tmI)), (am, .inl (cJ, 4, .inl ks_moI)), (al, .inl (cJ, 64, .inl bl)), (af, .inl (cJ, 4, .inl fr)), (an, .inl (cJ, 4, .inl fn))])) (va_Qv (fun u : (Nat → Int32) × (Nat → Int32) × (Nat → Int32) => rf_inv f (n + 1) u.1 u.2.1) (fun (u : (Nat → Int32) × (Nat → Int32) × (Nat → Int32)) t => kz_B dC dI [(cJ, .int)] (va_A [(h, .inr (2, [.ref ac, .ref au, .ref ab, .ref ae, .ref am, .ref ap, .int sz0, .ref ak, .ref al, .ref af, .ref an, .int (nI n), .ref ar, .int sm])), (ac, .inl (cJ, 64, .inl ks_k)), (au, .inl (cJ, 16, .inl ks_tt)), (ae, .inl (cJ, 4, .inl ks_tmI)), (am, .inl (cJ, 4, .inl ks_moI)), (al, .inl (cJ, 64, .inl bl)), (af, .inl (cJ, 4, .inl fr)), (an, .inl (cJ, 4, .inl fn))] sz) [(h, .inr (2, [.ref ac, .ref au, .ref ab, .ref ae, .ref am, .ref ap, .int sz0, .ref ak, .ref al, .ref af, .ref an, .int (nI (n + 1)), .ref ar, .int sm])), (ac, .inl (cJ, 64, .inl ks_k)), (au, .inl (cJ, 16, .inl ks_tt)), (ae, .inl (cJ, 4, .inl ks_tmI)), (am, .inl (cJ, 4, .inl ks_moI)), (al, .inl (cJ, 64, .inl u.1)), (af, .inl (cJ, 4, .inl u.2.1)), (an, .inl (cJ, 4, .inl u.2.2))] t) (va_A [(h, .inr (2, [.ref ac, .ref au, .ref ab, .ref ae, .ref am, .ref ap, .int sz0, .ref ak, .ref al, .ref af, .ref an, .int (nI n), .ref ar, .int sm])), (ac, .inl (cJ, 64, .inl ks_k)), (au, .inl (cJ, 16, .inl ks_tt)), (ae, .inl (cJ, 4, .inl ks_tmI)), (am, .inl (cJ, 4, .inl ks_moI)), (al, .inl (cJ, 64, .inl bl)), (af, .inl (cJ, 4, .inl fr)), (an, .inl (cJ, 4, .inl fn))] sz)) 0 0 (va_A [(h, .inr (2, [.ref ac, .ref au, .ref ab, .ref ae, .ref am, .ref ap, .int sz0, .ref ak, .ref al, .ref af, .ref an, .int (nI n), .ref ar, .int sm])), (ac, .inl (cJ, 64, .inl ks_k)), (au, .inl (cJ, 16, .inl ks_tt)), (ae, .inl (cJ, 4, .inl ks_tmI)), (am, .inl (cJ, 4, .inl ks_moI)), (al, .inl (cJ, 64, .inl bl)), (af, .inl (cJ, 4, .inl fr)), (an, .inl (cJ, 4, .inl fn))] sz) := by
  refine Met.ofW (cc := cX2_come) (maxL := 3) (ret := none) (by decide) rfl ?_
  intro p e s m args below meth c s₁ B hml hv
  obtain ⟨rfl, hsz, hP, hK, hD0⟩ := hv
  have hx := B.exec
  have hb := B.bytes
  have hr := B.returns
  have hts := atoms_spec (ws := wsX2_come) B.pre
  have hown : s.vm.findClass RX2 = some m.cls := findClass_of_methodNamed B.named
  have hlocks := B.notSynchronized
  subst hsz
  have hD := hD0.self (sz := s.heap.size)
  generalize hAe : va_A [(h, .inr (2, [.ref ac, .ref au, .ref ab, .ref ae, .ref am, .ref ap, .int sz0, .ref ak, .ref al, .ref af, .ref an, .int (nI n), .ref ar, .int sm])), (ac, .inl (cJ, 64, .inl ks_k)), (au, .inl (cJ, 16, .inl ks_tt)), (ae, .inl (cJ, 4, .inl ks_tmI)), (am, .inl (cJ, 4, .inl ks_moI)), (al, .inl (cJ, 64, .inl bl)), (af, .inl (cJ, 4, .inl fr)), (an, .inl (cJ, 4, .inl fn))] s.heap.size = A at hD  ⊢
  have hA : ∀ q : Nat, s.heap.size ≤ q → A q := fun q h => by rw [← hAe]; exact Or.inr h
  have hS : va_S A s.heap s.heap [] := va_S.rf
  have hP : va_P (dC, dI) vwCl [(h, .inr (2, [.ref ac, .ref au, .ref ab, .ref ae, .ref am, .ref ap, .int sz0, .ref ak, .ref al, .ref af, .ref an, .int (nI n), .ref ar, .int sm])), (ac, .inl (cJ, 64, .inl ks_k)), (au, .inl (cJ, 16, .inl ks_tt)), (ae, .inl (cJ, 4, .inl ks_tmI)), (am, .inl (cJ, 4, .inl ks_moI)), (al, .inl (cJ, 64, .inl bl)), (af, .inl (cJ, 4, .inl fr)), (an, .inl (cJ, 4, .inl fn))] s.heap := hP
  have hl := lv_entry ([.ref h, .int x]) (n := 3) (Nat.le_of_ble_eq_true rfl)
  rw [lg_entry_eq]
  generalize (lg_sl ([.ref h, .int x]) ++ List.replicate (3 - (lg_sl ([.ref h, .int x])).length) Slot.unset).toArray = ls at hl ⊢
  have hl : lv_has ls 3 [(0, .ref h), (1, .int x)] := hl
  refine lv_aload_n hx hb dX2_come_0 rfl (lv_at hl 0 rfl) ?_
  refine va_get (D := (dC, dI)) (ci := 2) (v := .ref al) (C := RX2) (T := TX2) (N := 14) hx hb hts (by decide +kernel) hown hK hP 0 rfl rfl 8 (by decide) (hts (.fieldLink RX2 99 "KeySumsModel" "block" "[I") (by decide +kernel)) (fun _ h9 => h9) rfl dX2_come_1 ?_
  refine lv_aload_n hx hb dX2_come_4 rfl (lv_at hl 0 rfl) ?_
  refine va_get (D := (dC, dI)) (ci := 2) (v := .int (nI n)) (C := RX2) (T := TX2) (N := 14) hx hb hts (by decide +kernel) hown hK hP 0 rfl rfl 11 (by decide) (hts (.fieldLink RX2 114 "KeySumsModel" "many" "I") (by decide +kernel)) (fun _ h9 => h9) rfl dX2_come_5 ?_
  refine lv_bipush (v := 64) hx hb dX2_come_8 (by decide) ?_
  refine lv_irem hx hb dX2_come_10 (by decide) ?_
  refine kz_top (y := nI (n % 64)) (pk_rem (d := 64) (by omega) (by decide) (by decide)) ?_
  refine lv_iload_n hx hb dX2_come_11 rfl (lv_at hl 1 rfl) ?_
  refine lv_sipush (v := 255) hx hb dX2_come_12 (by decide) ?_
  refine lv_iand hx hb dX2_come_15 ?_
  refine kz_iast (j := (n % 64)) hx hb hK hP hD hS 5 0 rfl rfl (show n % 64 < 64 by omega) (by decide) dX2_come_16 (fun H locs hP hD hS => ?_)
  have hP : va_P (dC, dI) vwCl [(h, .inr (2, [.ref ac, .ref au, .ref ab, .ref ae, .ref am, .ref ap, .int sz0, .ref ak, .ref al, .ref af, .ref an, .int (nI n), .ref ar, .int sm])), (ac, .inl (cJ, 64, .inl ks_k)), (au, .inl (cJ, 16, .inl ks_tt)), (ae, .inl (cJ, 4, .inl ks_tmI)), (am, .inl (cJ, 4, .inl ks_moI)), (al, .inl (cJ, 64, .inl (upd bl (n % 64) (x &&& 255)))), (af, .inl (cJ, 4, .inl fr)), (an, .inl (cJ, 4, .inl fn))] H := hP
  have hD : va_D A [(h, .inr (2, [.ref ac, .ref au, .ref ab, .ref ae, .ref am, .ref ap, .int sz0, .ref ak, .ref al, .ref af, .ref an, .int (nI n), .ref ar, .int sm])), (ac, .inl (cJ, 64, .inl ks_k)), (au, .inl (cJ, 16, .inl ks_tt)), (ae, .inl (cJ, 4, .inl ks_tmI)), (am, .inl (cJ, 4, .inl ks_moI)), (al, .inl (cJ, 64, .inl (upd bl (n % 64) (x &&& 255)))), (af, .inl (cJ, 4, .inl fr)), (an, .inl (cJ, 4, .inl fn))] := hD
  generalize hbl : upd bl (n % 64) (x &&& 255) = bl1 at hP hD
  refine lv_aload_n hx hb dX2_come_17 rfl (lv_at hl 0 rfl) ?_
  refine lv_dup hx hb dX2_come_18 rfl ?_
  refine va_get (D := (dC, dI)) (ci := 2) (v := .int (nI n)) (C := RX2) (T := TX2) (N := 14) hx hb hts (by decide +kernel) hown hK hP 0 rfl rfl 11 (by decide) (hts (.fieldLink RX2 114 "KeySumsModel" "many" "I") (by decide +kernel)) (fun _ h9 => h9) rfl dX2_come_19 ?_
  refine lv_iconst (v := 1) hx hb dX2_come_22 (by decide) ?_
  refine lv_iadd hx hb dX2_come_23 ?_
  refine kz_top (y := nI (n + 1)) (nI_1 n) ?_
  refine va_put (D := (dC, dI)) (ci := 2) (v := .int (nI (n + 1))) (ty := .int) (C := RX2) (T := TX2) (N := 14) hx hb hts (by decide +kernel) tyX2 tyX2_ok nmX2 hown hK hP hD hS 0 rfl rfl 11 (by decide) (hts (.fieldLink RX2 114 "KeySumsModel" "many" "I") (by decide +kernel)) (fun _ h9 => h9) rfl (by decide +kernel) rfl rfl (Nat.le_of_ble_eq_true rfl) dX2_come_24 (fun H locs hP hD hS => ?_)
  have hP : va_P (dC, dI) vwCl [(h, .inr (2, [.ref ac, .ref au, .ref ab, .ref ae, .ref am, .ref ap, .int sz0, .ref ak, .ref al, .ref af, .ref an, .int (nI (n + 1)), .ref ar, .int sm])), (ac, .inl (cJ, 64, .inl ks_k)), (au, .inl (cJ, 16, .inl ks_tt)), (ae, .inl (cJ, 4, .inl ks_tmI)), (am, .inl (cJ, 4, .inl ks_moI)), (al, .inl (cJ, 64, .inl bl1)), (af, .inl (cJ, 4, .inl fr)), (an, .inl (cJ, 4, .inl fn))] H := hP
  have hD : va_D A [(h, .inr (2, [.ref ac, .ref au, .ref ab, .ref ae, .ref am, .ref ap, .int sz0, .ref ak, .ref al, .ref af, .ref an, .int (nI (n + 1)), .ref ar, .int sm])), (ac, .inl (cJ, 64, .inl ks_k)), (au, .inl (cJ, 16, .inl ks_tt)), (ae, .inl (cJ, 4, .inl ks_tmI)), (am, .inl (cJ, 4, .inl ks_moI)), (al, .inl (cJ, 64, .inl bl1)), (af, .inl (cJ, 4, .inl fr)), (an, .inl (cJ, 4, .inl fn))] := hD
  refine lv_aload_n hx hb dX2_come_27 rfl (lv_at hl 0 rfl) ?_
  refine va_get (D := (dC, dI)) (ci := 2) (v := .int (nI (n + 1))) (C := RX2) (T := TX2) (N := 14) hx hb hts (by decide +kernel) hown hK hP 0 rfl rfl 11 (by decide) (hts (.fieldLink RX2 114 "KeySumsModel" "many" "I") (by decide +kernel)) (fun _ h9 => h9) rfl dX2_come_28 ?_
  refine lv_bipush (v := 64) hx hb dX2_come_31 (by decide) ?_
  refine lv_irem hx hb dX2_come_33 (by decide) ?_
  refine kz_top (y := nI ((n + 1) % 64)) (pk_rem (d := 64) (by omega) (by decide) (by decide)) ?_
  refine lv_if_le (tgt := 38) hx hb dX2_come_34 (by decide) (fun hc => ?_) (fun hc => ?_)
  · skip
    have hz : (n + 1) % 64 = 0 := by
      rcases Nat.eq_zero_or_pos ((n + 1) % 64) with q | q
      · exact q
      · exact absurd hc (nI_nle q (by omega))
    refine lv_iconst (v := 0) hx hb dX2_come_38 (by decide) ?_
    refine kz_top (y := nI 0) nI_0.symm ?_
    refine lv_istore_n (lv' := [(2, .int (nI 0)), (0, .ref h), (1, .int x)]) hx hb dX2_come_39 rfl hl (by decide) rfl (fun ls hl => ?_)
    refine kz_loop (σ := Nat → Int32) (fun i y ls H locs => (∀ j, j < i → y j = fr j) ∧ lv_has ls 3 [(2, .int (nI i)), (0, .ref h)] ∧ va_P (dC, dI) vwCl [(h, .inr (2, [.ref ac, .ref au, .ref ab, .ref ae, .ref am, .ref ap, .int sz0, .ref ak, .ref al, .ref af, .ref an, .int (nI (n + 1)), .ref ar, .int sm])), (ac, .inl (cJ, 64, .inl ks_k)), (au, .inl (cJ, 16, .inl ks_tt)), (ae, .inl (cJ, 4, .inl ks_tmI)), (am, .inl (cJ, 4, .inl ks_moI)), (al, .inl (cJ, 64, .inl bl1)), (af, .inl (cJ, 4, .inl fr)), (an, .inl (cJ, 4, .inl y))] H ∧ va_D A [(h, .inr (2, [.ref ac, .ref au, .ref ab, .ref ae, .ref am, .ref ap, .int sz0, .ref ak, .ref al, .ref af, .ref an, .int (nI (n + 1)), .ref ar, .int sm])), (ac, .inl (cJ, 64, .inl ks_k)), (au, .inl (cJ, 16, .inl ks_tt)), (ae, .inl (cJ, 4, .inl ks_tmI)), (am, .inl (cJ, 4, .inl ks_moI)), (al, .inl (cJ, 64, .inl bl1)), (af, .inl (cJ, 4, .inl fr)), (an, .inl (cJ, 4, .inl y))] ∧ va_S A s.heap H locs) 4 ?_ ?_ 0 fn ls _ _ (Nat.zero_le _) ⟨fun j hj => absurd hj (Nat.not_lt_zero j), lv_sub hl [0, 1] rfl, hP, hD, hS⟩
    · skip
      intro i y ls H locs hlt hI ih
      obtain ⟨hv, hl, hP, hD, hS⟩ := hI
      refine lv_iload_n hx hb dX2_come_40 rfl (lv_at hl 0 rfl) ?_
      refine lv_iconst (v := 4) hx hb dX2_come_41 (by decide) ?_
      refine lv_icmp_ge (tgt := 63) hx hb dX2_come_42 (by decide) (fun hc => ?_) (fun hc => ?_)
      · skip
        exact absurd hc (nI_ge (a := i) (b := 4) hlt (by decide))
      · skip
        refine lv_aload_n hx hb dX2_come_45 rfl (lv_at hl 1 rfl) ?_
        refine va_get (D := (dC, dI)) (ci := 2) (v := .ref an) (C := RX2) (T := TX2) (N := 14) hx hb hts (by decide +kernel) hown hK hP 0 rfl rfl 10 (by decide) (hts (.fieldLink RX2 105 "KeySumsModel" "now" "[I") (by decide +kernel)) (fun _ h9 => h9) rfl dX2_come_46 ?_
        refine lv_iload_n hx hb dX2_come_49 rfl (lv_at hl 0 rfl) ?_
        refine lv_aload_n hx hb dX2_come_50 rfl (lv_at hl 1 rfl) ?_
        refine va_get (D := (dC, dI)) (ci := 2) (v := .ref af) (C := RX2) (T := TX2) (N := 14) hx hb hts (by decide +kernel) hown hK hP 0 rfl rfl 9 (by decide) (hts (.fieldLink RX2 102 "KeySumsModel" "four" "[I") (by decide +kernel)) (fun _ h9 => h9) rfl dX2_come_51 ?_
        refine lv_iload_n hx hb dX2_come_54 rfl (lv_at hl 0 rfl) ?_
        refine kz_iald (j := i) hx hb hK hP 6 0 rfl rfl (hlt) (by decide) dX2_come_55 ?_
        refine kz_iast (j := i) hx hb hK hP hD hS 7 0 rfl rfl (hlt) (by decide) dX2_come_56 (fun H locs hP hD hS => ?_)
        have hP : va_P (dC, dI) vwCl [(h, .inr (2, [.ref ac, .ref au, .ref ab, .ref ae, .ref am, .ref ap, .int sz0, .ref ak, .ref al, .ref af, .ref an, .int (nI (n + 1)), .ref ar, .int sm])), (ac, .inl (cJ, 64, .inl ks_k)), (au, .inl (cJ, 16, .inl ks_tt)), (ae, .inl (cJ, 4, .inl ks_tmI)), (am, .inl (cJ, 4, .inl ks_moI)), (al, .inl (cJ, 64, .inl bl1)), (af, .inl (cJ, 4, .inl fr)), (an, .inl (cJ, 4, .inl (upd y i (fr i))))] H := hP
        have hD : va_D A [(h, .inr (2, [.ref ac, .ref au, .ref ab, .ref ae, .ref am, .ref ap, .int sz0, .ref ak, .ref al, .ref af, .ref an, .int (nI (n + 1)), .ref ar, .int sm])), (ac, .inl (cJ, 64, .inl ks_k)), (au, .inl (cJ, 16, .inl ks_tt)), (ae, .inl (cJ, 4, .inl ks_tmI)), (am, .inl (cJ, 4, .inl ks_moI)), (al, .inl (cJ, 64, .inl bl1)), (af, .inl (cJ, 4, .inl fr)), (an, .inl (cJ, 4, .inl (upd y i (fr i))))] := hD
        refine lv_iinc (v := nI (i + 1)) (lv' := [(2, .int (nI (i + 1))), (0, .ref h)]) hx hb dX2_come_57 hl (k := 0) rfl (nI_1 i) (by decide) rfl (fun ls hl => ?_)
        refine lv_goto (tgt := 40) hx hb dX2_come_60 (by decide) ?_
        refine ih _ ls H locs ⟨?_, lv_sub hl [0, 1] rfl, hP, hD, hS⟩
        intro j hj
        by_cases q : j = i
        · subst q; rw [pk_us]
        · rw [pk_un q]; exact hv j (by omega)
    · skip
      intro y ls H locs hI
      obtain ⟨hv, hl, hP, hD, hS⟩ := hI
      refine lv_iload_n hx hb dX2_come_40 rfl (lv_at hl 0 rfl) ?_
      refine lv_iconst (v := 4) hx hb dX2_come_41 (by decide) ?_
      refine lv_icmp_ge (tgt := 63) hx hb dX2_come_42 (by decide) (fun hc => ?_) (fun hc => ?_)
      · skip
        have hy : ks_4 y = ks_4 fr := by unfold ks_4; rw [hv 0 (by decide), hv 1 (by decide), hv 2 (by decide), hv 3 (by decide)]
        refine lv_iconst (v := 0) hx hb dX2_come_63 (by decide) ?_
        refine kz_top (y := nI 0) nI_0.symm ?_
        refine lv_istore_n (lv' := [(2, .int (nI 0)), (0, .ref h)]) hx hb dX2_come_64 rfl hl (by decide) rfl (fun ls hl => ?_)
        refine kz_loop (σ := Nat → Int32) (fun i y ls H locs => ks_4 y = ks_run (ks_lw bl1) (ks_4 fr) i ∧ lv_has ls 3 [(2, .int (nI i)), (0, .ref h)] ∧ va_P (dC, dI) vwCl [(h, .inr (2, [.ref ac, .ref au, .ref ab, .ref ae, .ref am, .ref ap, .int sz0, .ref ak, .ref al, .ref af, .ref an, .int (nI (n + 1)), .ref ar, .int sm])), (ac, .inl (cJ, 64, .inl ks_k)), (au, .inl (cJ, 16, .inl ks_tt)), (ae, .inl (cJ, 4, .inl ks_tmI)), (am, .inl (cJ, 4, .inl ks_moI)), (al, .inl (cJ, 64, .inl bl1)), (af, .inl (cJ, 4, .inl fr)), (an, .inl (cJ, 4, .inl y))] H ∧ va_D A [(h, .inr (2, [.ref ac, .ref au, .ref ab, .ref ae, .ref am, .ref ap, .int sz0, .ref ak, .ref al, .ref af, .ref an, .int (nI (n + 1)), .ref ar, .int sm])), (ac, .inl (cJ, 64, .inl ks_k)), (au, .inl (cJ, 16, .inl ks_tt)), (ae, .inl (cJ, 4, .inl ks_tmI)), (am, .inl (cJ, 4, .inl ks_moI)), (al, .inl (cJ, 64, .inl bl1)), (af, .inl (cJ, 4, .inl fr)), (an, .inl (cJ, 4, .inl y))] ∧ va_S A s.heap H locs) 64 ?_ ?_ 0 y ls _ _ (Nat.zero_le _) ⟨hy, lv_sub hl [0, 1] rfl, hP, hD, hS⟩
        · skip
          intro i y ls H locs hlt hI ih
          obtain ⟨hv, hl, hP, hD, hS⟩ := hI
          refine lv_iload_n hx hb dX2_come_65 rfl (lv_at hl 0 rfl) ?_
          refine lv_bipush (v := 64) hx hb dX2_come_66 (by decide) ?_
          refine lv_icmp_ge (tgt := 82) hx hb dX2_come_68 (by decide) (fun hc => ?_) (fun hc => ?_)
          · skip
            exact absurd hc (nI_ge (a := i) (b := 64) hlt (by decide))
          · skip
            refine lv_aload_n hx hb dX2_come_71 rfl (lv_at hl 1 rfl) ?_
            refine lv_iload_n hx hb dX2_come_72 rfl (lv_at hl 0 rfl) ?_
            have hPc := hP.sub (ws' := [(h, .inr (2, [.ref ac, .ref au, .ref ab, .ref ae, .ref am, .ref ap, .int sz0, .ref ak, .ref al, .ref af, .ref an, .int (nI (n + 1)), .ref ar, .int sm])), (ac, .inl (cJ, 64, .inl ks_k)), (au, .inl (cJ, 16, .inl ks_tt)), (ae, .inl (cJ, 4, .inl ks_tmI)), (am, .inl (cJ, 4, .inl ks_moI)), (al, .inl (cJ, 64, .inl bl1)), (an, .inl (cJ, 4, .inl y))]) [0, 1, 2, 3, 4, 5, 7] rfl
            have hDc := hD.sub (ws' := [(h, .inr (2, [.ref ac, .ref au, .ref ab, .ref ae, .ref am, .ref ap, .int sz0, .ref ak, .ref al, .ref af, .ref an, .int (nI (n + 1)), .ref ar, .int sm])), (ac, .inl (cJ, 64, .inl ks_k)), (au, .inl (cJ, 16, .inl ks_tt)), (ae, .inl (cJ, 4, .inl ks_tmI)), (am, .inl (cJ, 4, .inl ks_moI)), (al, .inl (cJ, 64, .inl bl1)), (an, .inl (cJ, 4, .inl y))]) [0, 1, 2, 3, 4, 5, 7] (by decide) rfl
            have hKc := hK.sub (tys' := [(cJ, .int)]) [0] rfl
            have hFc := va_free (wc := [(h, .inr (2, [.ref ac, .ref au, .ref ab, .ref ae, .ref am, .ref ap, .int sz0, .ref ak, .ref al, .ref af, .ref an, .int (nI (n + 1)), .ref ar, .int sm])), (ac, .inl (cJ, 64, .inl ks_k)), (au, .inl (cJ, 16, .inl ks_tt)), (ae, .inl (cJ, 4, .inl ks_tmI)), (am, .inl (cJ, 4, .inl ks_moI)), (al, .inl (cJ, 64, .inl bl1)), (an, .inl (cJ, 4, .inl y))]) hD hS hA [0, 1, 2, 3, 4, 5, 7] rfl
            refine va_callv (va_runV (As := [.int (nI i)]) (rest := []) ⟨hx, hb, hml, hown, hts⟩ (r_step l dC dI H.size h ac au ab ae am ap ak al af an ar cJ sz0 (nI (n + 1)) sm bl1 y i hlt) (cwV 1 hts gX2_come_X2_step rfl rfl rfl (by decide +kernel) ⟨Nat.le_of_ble_eq_true rfl, Nat.le_of_ble_eq_true rfl⟩) ⟨fun a U g mk q => by obtain ⟨q0, q1, qP, qK, qD⟩ := q; exact ⟨q0, q1, qP, va_K.moved (u := U) (U := U.calling g mk a) (Vm.Alike.refl U.vm) qK, qD⟩, va_recv hKc hPc (ci := 2) (q0 := 0) rfl rfl, fun U hU hW => ⟨rfl, by rw [hU], by rw [hU]; exact hPc, va_K.moved hW.alike hKc, hDc.weaken (fun _ _ _ _ => trivial)⟩⟩ rfl rfl hl.1 rfl (lv_room (Nat.le_of_ble_eq_true rfl)) dX2_come_73 ⟨Nat.zero_le _, Nat.zero_le _⟩) hS (fun q _ h => hFc q h) hFc (fun u t H1 locs ht hvm hw hB hz1 hk1 hS => ?_)
            obtain ⟨hP1, hK1, hD1⟩ := hB
            rw [ht] at hP1
            have hK1 := va_K.moved hvm.symm hK1
            try dsimp only at hw
            obtain ⟨hP, hD⟩ := va_join (wr := [(af, .inl (cJ, 4, .inl fr))]) (w1 := [(h, .inr (2, [.ref ac, .ref au, .ref ab, .ref ae, .ref am, .ref ap, .int sz0, .ref ak, .ref al, .ref af, .ref an, .int (nI (n + 1)), .ref ar, .int sm])), (ac, .inl (cJ, 64, .inl ks_k)), (au, .inl (cJ, 16, .inl ks_tt)), (ae, .inl (cJ, 4, .inl ks_tmI)), (am, .inl (cJ, 4, .inl ks_moI)), (al, .inl (cJ, 64, .inl bl1)), (an, .inl (cJ, 4, .inl u))]) hP hD [0, 1, 2, 3, 4, 5, 7] [6] rfl rfl (by decide) (by decide) hk1 hFc hP1 hD1
            have hP := hP.sub (ws' := [(h, .inr (2, [.ref ac, .ref au, .ref ab, .ref ae, .ref am, .ref ap, .int sz0, .ref ak, .ref al, .ref af, .ref an, .int (nI (n + 1)), .ref ar, .int sm])), (ac, .inl (cJ, 64, .inl ks_k)), (au, .inl (cJ, 16, .inl ks_tt)), (ae, .inl (cJ, 4, .inl ks_tmI)), (am, .inl (cJ, 4, .inl ks_moI)), (al, .inl (cJ, 64, .inl bl1)), (af, .inl (cJ, 4, .inl fr)), (an, .inl (cJ, 4, .inl u))]) [1, 2, 3, 4, 5, 6, 0, 7] rfl
            have hD := hD.sub (ws' := [(h, .inr (2, [.ref ac, .ref au, .ref ab, .ref ae, .ref am, .ref ap, .int sz0, .ref ak, .ref al, .ref af, .ref an, .int (nI (n + 1)), .ref ar, .int sm])), (ac, .inl (cJ, 64, .inl ks_k)), (au, .inl (cJ, 16, .inl ks_tt)), (ae, .inl (cJ, 4, .inl ks_tmI)), (am, .inl (cJ, 4, .inl ks_moI)), (al, .inl (cJ, 64, .inl bl1)), (af, .inl (cJ, 4, .inl fr)), (an, .inl (cJ, 4, .inl u))]) [1, 2, 3, 4, 5, 6, 0, 7] (by decide) rfl
            generalize H1 = H at hP hS ⊢
            have hP : va_P (dC, dI) vwCl [(h, .inr (2, [.ref ac, .ref au, .ref ab, .ref ae, .ref am, .ref ap, .int sz0, .ref ak, .ref al, .ref af, .ref an, .int (nI (n + 1)), .ref ar, .int sm])), (ac, .inl (cJ, 64, .inl ks_k)), (au, .inl (cJ, 16, .inl ks_tt)), (ae, .inl (cJ, 4, .inl ks_tmI)), (am, .inl (cJ, 4, .inl ks_moI)), (al, .inl (cJ, 64, .inl bl1)), (af, .inl (cJ, 4, .inl fr)), (an, .inl (cJ, 4, .inl u))] H := hP
            have hD : va_D A [(h, .inr (2, [.ref ac, .ref au, .ref ab, .ref ae, .ref am, .ref ap, .int sz0, .ref ak, .ref al, .ref af, .ref an, .int (nI (n + 1)), .ref ar, .int sm])), (ac, .inl (cJ, 64, .inl ks_k)), (au, .inl (cJ, 16, .inl ks_tt)), (ae, .inl (cJ, 4, .inl ks_tmI)), (am, .inl (cJ, 4, .inl ks_moI)), (al, .inl (cJ, 64, .inl bl1)), (af, .inl (cJ, 4, .inl fr)), (an, .inl (cJ, 4, .inl u))] := hD
            refine lv_iinc (v := nI (i + 1)) (lv' := [(2, .int (nI (i + 1))), (0, .ref h)]) hx hb dX2_come_76 hl (k := 0) rfl (nI_1 i) (by decide) rfl (fun ls hl => ?_)
            refine lv_goto (tgt := 65) hx hb dX2_come_79 (by decide) ?_
            exact ih u ls H locs ⟨by rw [hw, hv]; rfl, lv_sub hl [0, 1] rfl, hP, hD, hS⟩
        · skip
          intro y ls H locs hI
          obtain ⟨hv, hl, hP, hD, hS⟩ := hI
          refine lv_iload_n hx hb dX2_come_65 rfl (lv_at hl 0 rfl) ?_
          refine lv_bipush (v := 64) hx hb dX2_come_66 (by decide) ?_
          refine lv_icmp_ge (tgt := 82) hx hb dX2_come_68 (by decide) (fun hc => ?_) (fun hc => ?_)
          · skip
            refine lv_iconst (v := 0) hx hb dX2_come_82 (by decide) ?_
            refine kz_top (y := nI 0) nI_0.symm ?_
            refine lv_istore_n (lv' := [(2, .int (nI 0)), (0, .ref h)]) hx hb dX2_come_83 rfl hl (by decide) rfl (fun ls hl => ?_)
            refine kz_loop (σ := Nat → Int32) (fun i z ls H locs => (∀ j, j < i → z j = fr j + y j) ∧ (∀ j, i ≤ j → z j = fr j) ∧ lv_has ls 3 [(2, .int (nI i)), (0, .ref h)] ∧ va_P (dC, dI) vwCl [(h, .inr (2, [.ref ac, .ref au, .ref ab, .ref ae, .ref am, .ref ap, .int sz0, .ref ak, .ref al, .ref af, .ref an, .int (nI (n + 1)), .ref ar, .int sm])), (ac, .inl (cJ, 64, .inl ks_k)), (au, .inl (cJ, 16, .inl ks_tt)), (ae, .inl (cJ, 4, .inl ks_tmI)), (am, .inl (cJ, 4, .inl ks_moI)), (al, .inl (cJ, 64, .inl bl1)), (af, .inl (cJ, 4, .inl z)), (an, .inl (cJ, 4, .inl y))] H ∧ va_D A [(h, .inr (2, [.ref ac, .ref au, .ref ab, .ref ae, .ref am, .ref ap, .int sz0, .ref ak, .ref al, .ref af, .ref an, .int (nI (n + 1)), .ref ar, .int sm])), (ac, .inl (cJ, 64, .inl ks_k)), (au, .inl (cJ, 16, .inl ks_tt)), (ae, .inl (cJ, 4, .inl ks_tmI)), (am, .inl (cJ, 4, .inl ks_moI)), (al, .inl (cJ, 64, .inl bl1)), (af, .inl (cJ, 4, .inl z)), (an, .inl (cJ, 4, .inl y))] ∧ va_S A s.heap H locs) 4 ?_ ?_ 0 fr ls _ _ (Nat.zero_le _) ⟨fun j hj => absurd hj (Nat.not_lt_zero j), fun _ _ => rfl, lv_sub hl [0, 1] rfl, hP, hD, hS⟩
            · skip
              intro i z ls H locs hlt hI ih
              obtain ⟨hz1, hz2, hl, hP, hD, hS⟩ := hI
              refine lv_iload_n hx hb dX2_come_84 rfl (lv_at hl 0 rfl) ?_
              refine lv_iconst (v := 4) hx hb dX2_come_85 (by decide) ?_
              refine lv_icmp_ge (tgt := 110) hx hb dX2_come_86 (by decide) (fun hc => ?_) (fun hc => ?_)
              · skip
                exact absurd hc (nI_ge (a := i) (b := 4) hlt (by decide))
              · skip
                refine lv_aload_n hx hb dX2_come_89 rfl (lv_at hl 1 rfl) ?_
                refine va_get (D := (dC, dI)) (ci := 2) (v := .ref af) (C := RX2) (T := TX2) (N := 14) hx hb hts (by decide +kernel) hown hK hP 0 rfl rfl 9 (by decide) (hts (.fieldLink RX2 102 "KeySumsModel" "four" "[I") (by decide +kernel)) (fun _ h9 => h9) rfl dX2_come_90 ?_
                refine lv_iload_n hx hb dX2_come_93 rfl (lv_at hl 0 rfl) ?_
                refine lv_dup2_11 hx hb dX2_come_94 rfl rfl ?_
                refine kz_iald (j := i) hx hb hK hP 6 0 rfl rfl (hlt) (by decide) dX2_come_95 ?_
                refine lv_aload_n hx hb dX2_come_96 rfl (lv_at hl 1 rfl) ?_
                refine va_get (D := (dC, dI)) (ci := 2) (v := .ref an) (C := RX2) (T := TX2) (N := 14) hx hb hts (by decide +kernel) hown hK hP 0 rfl rfl 10 (by decide) (hts (.fieldLink RX2 105 "KeySumsModel" "now" "[I") (by decide +kernel)) (fun _ h9 => h9) rfl dX2_come_97 ?_
                refine lv_iload_n hx hb dX2_come_100 rfl (lv_at hl 0 rfl) ?_
                refine kz_iald (j := i) hx hb hK hP 7 0 rfl rfl (hlt) (by decide) dX2_come_101 ?_
                refine lv_iadd hx hb dX2_come_102 ?_
                refine kz_iast (j := i) hx hb hK hP hD hS 6 0 rfl rfl (hlt) (by decide) dX2_come_103 (fun H locs hP hD hS => ?_)
                have hP : va_P (dC, dI) vwCl [(h, .inr (2, [.ref ac, .ref au, .ref ab, .ref ae, .ref am, .ref ap, .int sz0, .ref ak, .ref al, .ref af, .ref an, .int (nI (n + 1)), .ref ar, .int sm])), (ac, .inl (cJ, 64, .inl ks_k)), (au, .inl (cJ, 16, .inl ks_tt)), (ae, .inl (cJ, 4, .inl ks_tmI)), (am, .inl (cJ, 4, .inl ks_moI)), (al, .inl (cJ, 64, .inl bl1)), (af, .inl (cJ, 4, .inl (upd z i ((z i) + (y i))))), (an, .inl (cJ, 4, .inl y))] H := hP
                have hD : va_D A [(h, .inr (2, [.ref ac, .ref au, .ref ab, .ref ae, .ref am, .ref ap, .int sz0, .ref ak, .ref al, .ref af, .ref an, .int (nI (n + 1)), .ref ar, .int sm])), (ac, .inl (cJ, 64, .inl ks_k)), (au, .inl (cJ, 16, .inl ks_tt)), (ae, .inl (cJ, 4, .inl ks_tmI)), (am, .inl (cJ, 4, .inl ks_moI)), (al, .inl (cJ, 64, .inl bl1)), (af, .inl (cJ, 4, .inl (upd z i ((z i) + (y i))))), (an, .inl (cJ, 4, .inl y))] := hD
                refine lv_iinc (v := nI (i + 1)) (lv' := [(2, .int (nI (i + 1))), (0, .ref h)]) hx hb dX2_come_104 hl (k := 0) rfl (nI_1 i) (by decide) rfl (fun ls hl => ?_)
                refine lv_goto (tgt := 84) hx hb dX2_come_107 (by decide) ?_
                refine ih _ ls H locs ⟨?_, ?_, lv_sub hl [0, 1] rfl, hP, hD, hS⟩
                · intro j hj
                  by_cases q : j = i
                  · subst q; rw [pk_us, hz2 j (Nat.le_refl j)]
                  · rw [pk_un q]; exact hz1 j (by omega)
                · intro j hj
                  rw [pk_un (show j ≠ i by omega)]; exact hz2 j (by omega)
            · skip
              intro z ls H locs hI
              obtain ⟨hz1, hz2, hl, hP, hD, hS⟩ := hI
              refine lv_iload_n hx hb dX2_come_84 rfl (lv_at hl 0 rfl) ?_
              refine lv_iconst (v := 4) hx hb dX2_come_85 (by decide) ?_
              refine lv_icmp_ge (tgt := 110) hx hb dX2_come_86 (by decide) (fun hc => ?_) (fun hc => ?_)
              · skip
                have hm : ks_4 z = ks_mix (ks_lw bl1) (ks_4 fr) := by
                  unfold ks_mix
                  rw [← hv]
                  unfold ks_4
                  rw [hz1 0 (by decide), hz1 1 (by decide), hz1 2 (by decide), hz1 3 (by decide)]
                rw [← hbl] at hm
                have hi2 := rf_full hi hfx hz hm
                rw [hbl] at hi2
                have hP9 := hP.sub (ws' := [(h, .inr (2, [.ref ac, .ref au, .ref ab, .ref ae, .ref am, .ref ap, .int sz0, .ref ak, .ref al, .ref af, .ref an, .int (nI (n + 1)), .ref ar, .int sm])), (ac, .inl (cJ, 64, .inl ks_k)), (au, .inl (cJ, 16, .inl ks_tt)), (ae, .inl (cJ, 4, .inl ks_tmI)), (am, .inl (cJ, 4, .inl ks_moI)), (al, .inl (cJ, 64, .inl bl1)), (af, .inl (cJ, 4, .inl z)), (an, .inl (cJ, 4, .inl y))]) [0, 1, 2, 3, 4, 5, 6, 7] rfl
                have hD9 := hD.sub (ws' := [(h, .inr (2, [.ref ac, .ref au, .ref ab, .ref ae, .ref am, .ref ap, .int sz0, .ref ak, .ref al, .ref af, .ref an, .int (nI (n + 1)), .ref ar, .int sm])), (ac, .inl (cJ, 64, .inl ks_k)), (au, .inl (cJ, 16, .inl ks_tt)), (ae, .inl (cJ, 4, .inl ks_tmI)), (am, .inl (cJ, 4, .inl ks_moI)), (al, .inl (cJ, 64, .inl bl1)), (af, .inl (cJ, 4, .inl z)), (an, .inl (cJ, 4, .inl y))]) [0, 1, 2, 3, 4, 5, 6, 7] (by decide) rfl
                have hK9 := hK.sub (tys' := [(cJ, .int)]) [0] rfl
                exact W.vret hx hb hr (fun t ht hW => ⟨⟨(bl1, z, y), rfl, hi2, by rw [ht]; exact hP9, va_K.moved hW.alike hK9, hD9⟩, hS.F ht⟩) hS.2.2 dX2_come_110
              · skip
                exact absurd (nI_le (a := 4) (b := 4) (Nat.le_refl _) (by decide)) hc
          · skip
            exact absurd (nI_le (a := 64) (b := 64) (Nat.le_refl _) (by decide)) hc
      · skip
        exact absurd (nI_le (a := 4) (b := 4) (Nat.le_refl _) (by decide)) hc
  · skip
    have hz : (n + 1) % 64 ≠ 0 := fun q => hc (by rw [q]; decide)
    have hi2 := rf_put hi hfx hz
    rw [hbl] at hi2
    have hP9 := hP.sub (ws' := [(h, .inr (2, [.ref ac, .ref au, .ref ab, .ref ae, .ref am, .ref ap, .int sz0, .ref ak, .ref al, .ref af, .ref an, .int (nI (n + 1)), .ref ar, .int sm])), (ac, .inl (cJ, 64, .inl ks_k)), (au, .inl (cJ, 16, .inl ks_tt)), (ae, .inl (cJ, 4, .inl ks_tmI)), (am, .inl (cJ, 4, .inl ks_moI)), (al, .inl (cJ, 64, .inl bl1)), (af, .inl (cJ, 4, .inl fr)), (an, .inl (cJ, 4, .inl fn))]) [0, 1, 2, 3, 4, 5, 6, 7] rfl
    have hD9 := hD.sub (ws' := [(h, .inr (2, [.ref ac, .ref au, .ref ab, .ref ae, .ref am, .ref ap, .int sz0, .ref ak, .ref al, .ref af, .ref an, .int (nI (n + 1)), .ref ar, .int sm])), (ac, .inl (cJ, 64, .inl ks_k)), (au, .inl (cJ, 16, .inl ks_tt)), (ae, .inl (cJ, 4, .inl ks_tmI)), (am, .inl (cJ, 4, .inl ks_moI)), (al, .inl (cJ, 64, .inl bl1)), (af, .inl (cJ, 4, .inl fr)), (an, .inl (cJ, 4, .inl fn))]) [0, 1, 2, 3, 4, 5, 6, 7] (by decide) rfl
    have hK9 := hK.sub (tys' := [(cJ, .int)]) [0] rfl
    exact W.vret hx hb hr (fun t ht hW => ⟨⟨(bl1, fr, fn), rfl, hi2, by rw [ht]; exact hP9, va_K.moved hW.alike hK9, hD9⟩, hS.F ht⟩) hS.2.2 dX2_come_37
end
section
set_option maxHeartbeats 4000000 in
set_option maxRecDepth 100000 in
/-- add -/
theorem r_add (l : Launch) (dC : Nat → ClassId) (dI : Nat → Nat → Nat) (sz : Nat) (h ac au ab ae am ap ak al af an ar : Nat) (cJ : ClassId) (sm : Int32) (tn n : Nat) (bl fr fn ft f : Nat → Int32) (h1 : tn ≤ 2000) (h2 : n + tn < 2 ^ 28) (hi : rf_inv f n bl fr) (hf : ∀ j, j < tn → f (n + j) &&& 255 = ft j &&& 255) : Met l yX2_add wsX2_add ({ frames := 3, cells := 0, slots := 0, locals := 90 }) (va_Pc [.ref h] (fun U => U.heap.size = sz ∧ va_P (dC, dI) vwCl [(h, .inr (2, [.ref ac, .ref au, .ref ab, .ref ae, .ref am, .ref ap, .int (nI tn), .ref ak, .ref al, .ref af, .ref an, .int (nI n), .ref ar, .int sm])), (ac, .inl (cJ, 64, .inl ks_k)), (au, .inl (cJ, 16, .inl ks_tt)), (ae, .inl (cJ, 4, .inl ks_tmI)), (am, .inl (cJ, 4, .inl ks_moI)), (al, .inl (cJ, 64, .inl bl)), (af, .inl (cJ, 4, .inl fr)), (an, .inl (cJ, 4, .inl fn)), (ap, .inl (cJ, 2000, .inl ft))] U.heap ∧ va_K (dC, dI) vwCl [(cJ, .int)] U ∧ va_D (fun _ => True) [(h, .inr (2, [.ref ac, .ref au, .ref ab, .ref ae, .ref am, .ref ap, .int (nI tn), .ref ak, .ref al, .ref af, .ref an, .int (nI n), .ref ar, .int sm])), (ac, .inl (cJ, 64, .inl ks_k)), (au, .inl (cJ, 16, .inl ks_tt)), (ae, .inl (cJ, 4, .inl ks_tmI)), (am, .inl (cJ, 4, .inl ks_moI)), (al, .inl (cJ, 64, .inl bl)), (af, .inl (cJ, 4, .inl fr)), (an, .inl (cJ, 4, .inl fn)), (ap, .inl (cJ, 2000, .inl ft))])) (va_Qi (fun (r : Int32) (u : (Nat → Int32) × (Nat → Int32) × (Nat → Int32)) => r = nI (n + tn) ∧ rf_inv f (n + tn) u.1 u.2.1) (fun (u : (Nat → Int32) × (Nat → Int32) × (Nat → Int32)) t => kz_B dC dI [(cJ, .int)] (va_A [(h, .inr (2, [.ref ac, .ref au, .ref ab, .ref ae, .ref am, .ref ap, .int (nI tn), .ref ak, .ref al, .ref af, .ref an, .int (nI n), .ref ar, .int sm])), (ac, .inl (cJ, 64, .inl ks_k)), (au, .inl (cJ, 16, .inl ks_tt)), (ae, .inl (cJ, 4, .inl ks_tmI)), (am, .inl (cJ, 4, .inl ks_moI)), (al, .inl (cJ, 64, .inl bl)), (af, .inl (cJ, 4, .inl fr)), (an, .inl (cJ, 4, .inl fn)), (ap, .inl (cJ, 2000, .inl ft))] sz) [(h, .inr (2, [.ref ac, .ref au, .ref ab, .ref ae, .ref am, .ref ap, .int (nI 0), .ref ak, .ref al, .ref af, .ref an, .int (nI (n + tn)), .ref ar, .int sm])), (ac, .inl (cJ, 64, .inl ks_k)), (au, .inl (cJ, 16, .inl ks_tt)), (ae, .inl (cJ, 4, .inl ks_tmI)), (am, .inl (cJ, 4, .inl ks_moI)), (al, .inl (cJ, 64, .inl u.1)), (af, .inl (cJ, 4, .inl u.2.1)), (an, .inl (cJ, 4, .inl u.2.2)), (ap, .inl (cJ, 2000, .inl ft))] t) (va_A [(h, .inr (2, [.ref ac, .ref au, .ref ab, .ref ae, .ref am, .ref ap, .int (nI tn), .ref ak, .ref al, .ref af, .ref an, .int (nI n), .ref ar, .int sm])), (ac, .inl (cJ, 64, .inl ks_k)), (au, .inl (cJ, 16, .inl ks_tt)), (ae, .inl (cJ, 4, .inl ks_tmI)), (am, .inl (cJ, 4, .inl ks_moI)), (al, .inl (cJ, 64, .inl bl)), (af, .inl (cJ, 4, .inl fr)), (an, .inl (cJ, 4, .inl fn)), (ap, .inl (cJ, 2000, .inl ft))] sz)) 0 0 (va_A [(h, .inr (2, [.ref ac, .ref au, .ref ab, .ref ae, .ref am, .ref ap, .int (nI tn), .ref ak, .ref al, .ref af, .ref an, .int (nI n), .ref ar, .int sm])), (ac, .inl (cJ, 64, .inl ks_k)), (au, .inl (cJ, 16, .inl ks_tt)), (ae, .inl (cJ, 4, .inl ks_tmI)), (am, .inl (cJ, 4, .inl ks_moI)), (al, .inl (cJ, 64, .inl bl)), (af, .inl (cJ, 4, .inl fr)), (an, .inl (cJ, 4, .inl fn)), (ap, .inl (cJ, 2000, .inl ft))] sz) := by
  refine Met.ofW (cc := cX2_add) (maxL := 2) (ret := (some .int)) (by decide) rfl ?_
  intro p e s m args below meth c s₁ B hml hv
  obtain ⟨rfl, hsz, hP, hK, hD0⟩ := hv
  have hx := B.exec
  have hb := B.bytes
  have hr := B.returns
  have hts := atoms_spec (ws := wsX2_add) B.pre
  have hown : s.vm.findClass RX2 = some m.cls := findClass_of_methodNamed B.named
  have hlocks := B.notSynchronized
  subst hsz
  have hD := hD0.self (sz := s.heap.size)
  generalize hAe : va_A [(h, .inr (2, [.ref ac, .ref au, .ref ab, .ref ae, .ref am, .ref ap, .int (nI tn), .ref ak, .ref al, .ref af, .ref an, .int (nI n), .ref ar, .int sm])), (ac, .inl (cJ, 64, .inl ks_k)), (au, .inl (cJ, 16, .inl ks_tt)), (ae, .inl (cJ, 4, .inl ks_tmI)), (am, .inl (cJ, 4, .inl ks_moI)), (al, .inl (cJ, 64, .inl bl)), (af, .inl (cJ, 4, .inl fr)), (an, .inl (cJ, 4, .inl fn)), (ap, .inl (cJ, 2000, .inl ft))] s.heap.size = A at hD  ⊢
  have hA : ∀ q : Nat, s.heap.size ≤ q → A q := fun q h => by rw [← hAe]; exact Or.inr h
  have hS : va_S A s.heap s.heap [] := va_S.rf
  have hP : va_P (dC, dI) vwCl [(h, .inr (2, [.ref ac, .ref au, .ref ab, .ref ae, .ref am, .ref ap, .int (nI tn), .ref ak, .ref al, .ref af, .ref an, .int (nI n), .ref ar, .int sm])), (ac, .inl (cJ, 64, .inl ks_k)), (au, .inl (cJ, 16, .inl ks_tt)), (ae, .inl (cJ, 4, .inl ks_tmI)), (am, .inl (cJ, 4, .inl ks_moI)), (al, .inl (cJ, 64, .inl bl)), (af, .inl (cJ, 4, .inl fr)), (an, .inl (cJ, 4, .inl fn)), (ap, .inl (cJ, 2000, .inl ft))] s.heap := hP
  have hl := lv_entry ([.ref h]) (n := 2) (Nat.le_of_ble_eq_true rfl)
  rw [lg_entry_eq]
  generalize (lg_sl ([.ref h]) ++ List.replicate (2 - (lg_sl ([.ref h])).length) Slot.unset).toArray = ls at hl ⊢
  have hl : lv_has ls 2 [(0, .ref h)] := hl
  refine lv_iconst (v := 0) hx hb dX2_add_0 (by decide) ?_
  refine kz_top (y := nI 0) nI_0.symm ?_
  refine lv_istore_n (lv' := [(1, .int (nI 0)), (0, .ref h)]) hx hb dX2_add_1 rfl hl (by decide) rfl (fun ls hl => ?_)
  refine kz_loop (σ := (Nat → Int32) × (Nat → Int32) × (Nat → Int32)) (fun i x ls H locs => rf_inv f (n + i) x.1 x.2.1 ∧ lv_has ls 2 [(1, .int (nI i)), (0, .ref h)] ∧ va_P (dC, dI) vwCl [(h, .inr (2, [.ref ac, .ref au, .ref ab, .ref ae, .ref am, .ref ap, .int (nI tn), .ref ak, .ref al, .ref af, .ref an, .int (nI (n + i)), .ref ar, .int sm])), (ac, .inl (cJ, 64, .inl ks_k)), (au, .inl (cJ, 16, .inl ks_tt)), (ae, .inl (cJ, 4, .inl ks_tmI)), (am, .inl (cJ, 4, .inl ks_moI)), (al, .inl (cJ, 64, .inl x.1)), (af, .inl (cJ, 4, .inl x.2.1)), (an, .inl (cJ, 4, .inl x.2.2)), (ap, .inl (cJ, 2000, .inl ft))] H ∧ va_D A [(h, .inr (2, [.ref ac, .ref au, .ref ab, .ref ae, .ref am, .ref ap, .int (nI tn), .ref ak, .ref al, .ref af, .ref an, .int (nI (n + i)), .ref ar, .int sm])), (ac, .inl (cJ, 64, .inl ks_k)), (au, .inl (cJ, 16, .inl ks_tt)), (ae, .inl (cJ, 4, .inl ks_tmI)), (am, .inl (cJ, 4, .inl ks_moI)), (al, .inl (cJ, 64, .inl x.1)), (af, .inl (cJ, 4, .inl x.2.1)), (an, .inl (cJ, 4, .inl x.2.2)), (ap, .inl (cJ, 2000, .inl ft))] ∧ va_S A s.heap H locs) tn ?_ ?_ 0 (bl, fr, fn) ls _ _ (Nat.zero_le _) ⟨hi, hl, hP, hD, hS⟩
  · skip
    intro i x ls H locs hlt hI ih
    obtain ⟨hv, hl, hP, hD, hS⟩ := hI
    refine lv_iload_n hx hb dX2_add_2 rfl (lv_at hl 0 rfl) ?_
    refine lv_aload_n hx hb dX2_add_3 rfl (lv_at hl 1 rfl) ?_
    refine va_get (D := (dC, dI)) (ci := 2) (v := .int (nI tn)) (C := RX2) (T := TX2) (N := 14) hx hb hts (by decide +kernel) hown hK hP 0 rfl rfl 6 (by decide) (hts (.fieldLink RX2 118 "KeySumsModel" "size" "I") (by decide +kernel)) (fun _ h9 => h9) rfl dX2_add_4 ?_
    refine lv_icmp_ge (tgt := 26) hx hb dX2_add_7 (by decide) (fun hc => ?_) (fun hc => ?_)
    · skip
      exact absurd hc (nI_ge hlt (by omega))
    · skip
      refine lv_aload_n hx hb dX2_add_10 rfl (lv_at hl 1 rfl) ?_
      refine lv_aload_n hx hb dX2_add_11 rfl (lv_at hl 1 rfl) ?_
      refine va_get (D := (dC, dI)) (ci := 2) (v := .ref ap) (C := RX2) (T := TX2) (N := 14) hx hb hts (by decide +kernel) hown hK hP 0 rfl rfl 5 (by decide) (hts (.fieldLink RX2 93 "KeySumsModel" "tape" "[I") (by decide +kernel)) (fun _ h9 => h9) rfl dX2_add_12 ?_
      refine lv_iload_n hx hb dX2_add_15 rfl (lv_at hl 0 rfl) ?_
      refine kz_iald (j := i) hx hb hK hP 8 0 rfl rfl (show i < 2000 by omega) (by decide) dX2_add_16 ?_
      have hPc := hP.sub (ws' := [(h, .inr (2, [.ref ac, .ref au, .ref ab, .ref ae, .ref am, .ref ap, .int (nI tn), .ref ak, .ref al, .ref af, .ref an, .int (nI (n + i)), .ref ar, .int sm])), (ac, .inl (cJ, 64, .inl ks_k)), (au, .inl (cJ, 16, .inl ks_tt)), (ae, .inl (cJ, 4, .inl ks_tmI)), (am, .inl (cJ, 4, .inl ks_moI)), (al, .inl (cJ, 64, .inl x.1)), (af, .inl (cJ, 4, .inl x.2.1)), (an, .inl (cJ, 4, .inl x.2.2))]) [0, 1, 2, 3, 4, 5, 6, 7] rfl
      have hDc := hD.sub (ws' := [(h, .inr (2, [.ref ac, .ref au, .ref ab, .ref ae, .ref am, .ref ap, .int (nI tn), .ref ak, .ref al, .ref af, .ref an, .int (nI (n + i)), .ref ar, .int sm])), (ac, .inl (cJ, 64, .inl ks_k)), (au, .inl (cJ, 16, .inl ks_tt)), (ae, .inl (cJ, 4, .inl ks_tmI)), (am, .inl (cJ, 4, .inl ks_moI)), (al, .inl (cJ, 64, .inl x.1)), (af, .inl (cJ, 4, .inl x.2.1)), (an, .inl (cJ, 4, .inl x.2.2))]) [0, 1, 2, 3, 4, 5, 6, 7] (by decide) rfl
      have hKc := hK.sub (tys' := [(cJ, .int)]) [0] rfl
      have hFc := va_free (wc := [(h, .inr (2, [.ref ac, .ref au, .ref ab, .ref ae, .ref am, .ref ap, .int (nI tn), .ref ak, .ref al, .ref af, .ref an, .int (nI (n + i)), .ref ar, .int sm])), (ac, .inl (cJ, 64, .inl ks_k)), (au, .inl (cJ, 16, .inl ks_tt)), (ae, .inl (cJ, 4, .inl ks_tmI)), (am, .inl (cJ, 4, .inl ks_moI)), (al, .inl (cJ, 64, .inl x.1)), (af, .inl (cJ, 4, .inl x.2.1)), (an, .inl (cJ, 4, .inl x.2.2))]) hD hS hA [0, 1, 2, 3, 4, 5, 6, 7] rfl
      refine va_callv (va_runV (As := [.int (ft i)]) (rest := []) ⟨hx, hb, hml, hown, hts⟩ (r_come l dC dI H.size h ac au ab ae am ap ak al af an ar cJ (nI tn) sm (n + i) x.1 x.2.1 x.2.2 f (ft i) (by omega) hv (hf i hlt)) (cwV 1 hts gX2_add_X2_come rfl rfl rfl (by decide +kernel) ⟨Nat.le_of_ble_eq_true rfl, Nat.le_of_ble_eq_true rfl⟩) ⟨fun a U g mk q => by obtain ⟨q0, q1, qP, qK, qD⟩ := q; exact ⟨q0, q1, qP, va_K.moved (u := U) (U := U.calling g mk a) (Vm.Alike.refl U.vm) qK, qD⟩, va_recv hKc hPc (ci := 2) (q0 := 0) rfl rfl, fun U hU hW => ⟨rfl, by rw [hU], by rw [hU]; exact hPc, va_K.moved hW.alike hKc, hDc.weaken (fun _ _ _ _ => trivial)⟩⟩ rfl rfl hl.1 rfl (lv_room (Nat.le_of_ble_eq_true rfl)) dX2_add_17 ⟨Nat.zero_le _, Nat.zero_le _⟩) hS (fun q _ h => hFc q h) hFc (fun u t H1 locs ht hvm hw hB hz1 hk1 hS => ?_)
      obtain ⟨b2, f2, n2⟩ := u
      obtain ⟨hP1, hK1, hD1⟩ := hB
      rw [ht] at hP1
      have hK1 := va_K.moved hvm.symm hK1
      try dsimp only at hw
      obtain ⟨hP, hD⟩ := va_join (wr := [(ap, .inl (cJ, 2000, .inl ft))]) (w1 := [(h, .inr (2, [.ref ac, .ref au, .ref ab, .ref ae, .ref am, .ref ap, .int (nI tn), .ref ak, .ref al, .ref af, .ref an, .int (nI (n + i + 1)), .ref ar, .int sm])), (ac, .inl (cJ, 64, .inl ks_k)), (au, .inl (cJ, 16, .inl ks_tt)), (ae, .inl (cJ, 4, .inl ks_tmI)), (am, .inl (cJ, 4, .inl ks_moI)), (al, .inl (cJ, 64, .inl b2)), (af, .inl (cJ, 4, .inl f2)), (an, .inl (cJ, 4, .inl n2))]) hP hD [0, 1, 2, 3, 4, 5, 6, 7] [8] rfl rfl (by decide) (by decide) hk1 hFc hP1 hD1
      have hP := hP.sub (ws' := [(h, .inr (2, [.ref ac, .ref au, .ref ab, .ref ae, .ref am, .ref ap, .int (nI tn), .ref ak, .ref al, .ref af, .ref an, .int (nI (n + i + 1)), .ref ar, .int sm])), (ac, .inl (cJ, 64, .inl ks_k)), (au, .inl (cJ, 16, .inl ks_tt)), (ae, .inl (cJ, 4, .inl ks_tmI)), (am, .inl (cJ, 4, .inl ks_moI)), (al, .inl (cJ, 64, .inl b2)), (af, .inl (cJ, 4, .inl f2)), (an, .inl (cJ, 4, .inl n2)), (ap, .inl (cJ, 2000, .inl ft))]) [1, 2, 3, 4, 5, 6, 7, 8, 0] rfl
      have hD := hD.sub (ws' := [(h, .inr (2, [.ref ac, .ref au, .ref ab, .ref ae, .ref am, .ref ap, .int (nI tn), .ref ak, .ref al, .ref af, .ref an, .int (nI (n + i + 1)), .ref ar, .int sm])), (ac, .inl (cJ, 64, .inl ks_k)), (au, .inl (cJ, 16, .inl ks_tt)), (ae, .inl (cJ, 4, .inl ks_tmI)), (am, .inl (cJ, 4, .inl ks_moI)), (al, .inl (cJ, 64, .inl b2)), (af, .inl (cJ, 4, .inl f2)), (an, .inl (cJ, 4, .inl n2)), (ap, .inl (cJ, 2000, .inl ft))]) [1, 2, 3, 4, 5, 6, 7, 8, 0] (by decide) rfl
      generalize H1 = H at hP hS ⊢
      have hP : va_P (dC, dI) vwCl [(h, .inr (2, [.ref ac, .ref au, .ref ab, .ref ae, .ref am, .ref ap, .int (nI tn), .ref ak, .ref al, .ref af, .ref an, .int (nI (n + i + 1)), .ref ar, .int sm])), (ac, .inl (cJ, 64, .inl ks_k)), (au, .inl (cJ, 16, .inl ks_tt)), (ae, .inl (cJ, 4, .inl ks_tmI)), (am, .inl (cJ, 4, .inl ks_moI)), (al, .inl (cJ, 64, .inl b2)), (af, .inl (cJ, 4, .inl f2)), (an, .inl (cJ, 4, .inl n2)), (ap, .inl (cJ, 2000, .inl ft))] H := hP
      have hD : va_D A [(h, .inr (2, [.ref ac, .ref au, .ref ab, .ref ae, .ref am, .ref ap, .int (nI tn), .ref ak, .ref al, .ref af, .ref an, .int (nI (n + i + 1)), .ref ar, .int sm])), (ac, .inl (cJ, 64, .inl ks_k)), (au, .inl (cJ, 16, .inl ks_tt)), (ae, .inl (cJ, 4, .inl ks_tmI)), (am, .inl (cJ, 4, .inl ks_moI)), (al, .inl (cJ, 64, .inl b2)), (af, .inl (cJ, 4, .inl f2)), (an, .inl (cJ, 4, .inl n2)), (ap, .inl (cJ, 2000, .inl ft))] := hD
      refine lv_iinc (v := nI (i + 1)) (lv' := [(1, .int (nI (i + 1))), (0, .ref h)]) hx hb dX2_add_20 hl (k := 0) rfl (nI_1 i) (by decide) rfl (fun ls hl => ?_)
      refine lv_goto (tgt := 2) hx hb dX2_add_23 (by decide) ?_
      exact ih (b2, f2, n2) ls H locs ⟨hw, lv_sub hl [0, 1] rfl, hP, hD, hS⟩
  · skip
    intro x ls H locs hI
    obtain ⟨hv, hl, hP, hD, hS⟩ := hI
    refine lv_iload_n hx hb dX2_add_2 rfl (lv_at hl 0 rfl) ?_
    refine lv_aload_n hx hb dX2_add_3 rfl (lv_at hl 1 rfl) ?_
    refine va_get (D := (dC, dI)) (ci := 2) (v := .int (nI tn)) (C := RX2) (T := TX2) (N := 14) hx hb hts (by decide +kernel) hown hK hP 0 rfl rfl 6 (by decide) (hts (.fieldLink RX2 118 "KeySumsModel" "size" "I") (by decide +kernel)) (fun _ h9 => h9) rfl dX2_add_4 ?_
    refine lv_icmp_ge (tgt := 26) hx hb dX2_add_7 (by decide) (fun hc => ?_) (fun hc => ?_)
    · skip
      refine lv_aload_n hx hb dX2_add_26 rfl (lv_at hl 1 rfl) ?_
      refine lv_iconst (v := 0) hx hb dX2_add_27 (by decide) ?_
      refine kz_top (y := nI 0) nI_0.symm ?_
      refine va_put (D := (dC, dI)) (ci := 2) (v := .int (nI 0)) (ty := .int) (C := RX2) (T := TX2) (N := 14) hx hb hts (by decide +kernel) tyX2 tyX2_ok nmX2 hown hK hP hD hS 0 rfl rfl 6 (by decide) (hts (.fieldLink RX2 118 "KeySumsModel" "size" "I") (by decide +kernel)) (fun _ h9 => h9) rfl (by decide +kernel) rfl rfl (Nat.le_of_ble_eq_true rfl) dX2_add_28 (fun H locs hP hD hS => ?_)
      have hP : va_P (dC, dI) vwCl [(h, .inr (2, [.ref ac, .ref au, .ref ab, .ref ae, .ref am, .ref ap, .int (nI 0), .ref ak, .ref al, .ref af, .ref an, .int (nI (n + tn)), .ref ar, .int sm])), (ac, .inl (cJ, 64, .inl ks_k)), (au, .inl (cJ, 16, .inl ks_tt)), (ae, .inl (cJ, 4, .inl ks_tmI)), (am, .inl (cJ, 4, .inl ks_moI)), (al, .inl (cJ, 64, .inl x.1)), (af, .inl (cJ, 4, .inl x.2.1)), (an, .inl (cJ, 4, .inl x.2.2)), (ap, .inl (cJ, 2000, .inl ft))] H := hP
      have hD : va_D A [(h, .inr (2, [.ref ac, .ref au, .ref ab, .ref ae, .ref am, .ref ap, .int (nI 0), .ref ak, .ref al, .ref af, .ref an, .int (nI (n + tn)), .ref ar, .int sm])), (ac, .inl (cJ, 64, .inl ks_k)), (au, .inl (cJ, 16, .inl ks_tt)), (ae, .inl (cJ, 4, .inl ks_tmI)), (am, .inl (cJ, 4, .inl ks_moI)), (al, .inl (cJ, 64, .inl x.1)), (af, .inl (cJ, 4, .inl x.2.1)), (an, .inl (cJ, 4, .inl x.2.2)), (ap, .inl (cJ, 2000, .inl ft))] := hD
      refine lv_aload_n hx hb dX2_add_31 rfl (lv_at hl 1 rfl) ?_
      refine va_get (D := (dC, dI)) (ci := 2) (v := .int (nI (n + tn))) (C := RX2) (T := TX2) (N := 14) hx hb hts (by decide +kernel) hown hK hP 0 rfl rfl 11 (by decide) (hts (.fieldLink RX2 114 "KeySumsModel" "many" "I") (by decide +kernel)) (fun _ h9 => h9) rfl dX2_add_32 ?_
      have hP9 := hP.sub (ws' := [(h, .inr (2, [.ref ac, .ref au, .ref ab, .ref ae, .ref am, .ref ap, .int (nI 0), .ref ak, .ref al, .ref af, .ref an, .int (nI (n + tn)), .ref ar, .int sm])), (ac, .inl (cJ, 64, .inl ks_k)), (au, .inl (cJ, 16, .inl ks_tt)), (ae, .inl (cJ, 4, .inl ks_tmI)), (am, .inl (cJ, 4, .inl ks_moI)), (al, .inl (cJ, 64, .inl x.1)), (af, .inl (cJ, 4, .inl x.2.1)), (an, .inl (cJ, 4, .inl x.2.2)), (ap, .inl (cJ, 2000, .inl ft))]) [0, 1, 2, 3, 4, 5, 6, 7, 8] rfl
      have hD9 := hD.sub (ws' := [(h, .inr (2, [.ref ac, .ref au, .ref ab, .ref ae, .ref am, .ref ap, .int (nI 0), .ref ak, .ref al, .ref af, .ref an, .int (nI (n + tn)), .ref ar, .int sm])), (ac, .inl (cJ, 64, .inl ks_k)), (au, .inl (cJ, 16, .inl ks_tt)), (ae, .inl (cJ, 4, .inl ks_tmI)), (am, .inl (cJ, 4, .inl ks_moI)), (al, .inl (cJ, 64, .inl x.1)), (af, .inl (cJ, 4, .inl x.2.1)), (an, .inl (cJ, 4, .inl x.2.2)), (ap, .inl (cJ, 2000, .inl ft))]) [0, 1, 2, 3, 4, 5, 6, 7, 8] (by decide) rfl
      have hK9 := hK.sub (tys' := [(cJ, .int)]) [0] rfl
      exact W.iret (v := (nI (n + tn))) hx hb hr (fun t ht hW => ⟨⟨(nI (n + tn)), x, rfl, ⟨rfl, hv⟩, by rw [ht]; exact hP9, va_K.moved hW.alike hK9, hD9⟩, hS.F ht⟩) hS.2.2 dX2_add_35
    · skip
      exact absurd (nI_le (Nat.le_refl _) (by omega)) hc

set_option maxHeartbeats 4000000 in
set_option maxRecDepth 100000 in
/-- fill, refused -/
theorem r_fill_no (l : Launch) (dC : Nat → ClassId) (dI : Nat → Nat → Nat) (sz : Nat) (h ac au ab ae am ap ak al af an ar : Nat) (cJ : ClassId) (sz0 mm sm : Int32) (y x : Int32) (h1 : y < 0 ∨ 4000 < y) : Met l yX2_fill wsX2_fill ({ frames := 0, cells := 0, slots := 0, locals := 0 }) (va_Pc [.ref h, .int y, .int x] (fun U => U.heap.size = sz ∧ va_P (dC, dI) vwCl [(h, .inr (2, [.ref ac, .ref au, .ref ab, .ref ae, .ref am, .ref ap, .int sz0, .ref ak, .ref al, .ref af, .ref an, .int mm, .ref ar, .int sm]))] U.heap ∧ va_K (dC, dI) vwCl [] U ∧ va_D (fun _ => True) [(h, .inr (2, [.ref ac, .ref au, .ref ab, .ref ae, .ref am, .ref ap, .int sz0, .ref ak, .ref al, .ref af, .ref an, .int mm, .ref ar, .int sm]))])) (vp_Si (fun r => r = -1)) 0 0 (fun _ => False) := by
  refine Met.ofW (cc := cX2_fill) (maxL := 4) (ret := (some .int)) (by decide) rfl ?_
  intro p e s m args below meth c s₁ B hml hv
  obtain ⟨rfl, hsz, hP, hK, hD0⟩ := hv
  have hx := B.exec
  have hb := B.bytes
  have hr := B.returns
  have hts := atoms_spec (ws := wsX2_fill) B.pre
  have hown : s.vm.findClass RX2 = some m.cls := findClass_of_methodNamed B.named
  have hlocks := B.notSynchronized
  subst hsz
  have hD := hD0.self (sz := s.heap.size)
  generalize hAe : va_A [(h, .inr (2, [.ref ac, .ref au, .ref ab, .ref ae, .ref am, .ref ap, .int sz0, .ref ak, .ref al, .ref af, .ref an, .int mm, .ref ar, .int sm]))] s.heap.size = A at hD  ⊢
  have hA : ∀ q : Nat, s.heap.size ≤ q → A q := fun q h => by rw [← hAe]; exact Or.inr h
  have hS : va_S A s.heap s.heap [] := va_S.rf
  have hP : va_P (dC, dI) vwCl [(h, .inr (2, [.ref ac, .ref au, .ref ab, .ref ae, .ref am, .ref ap, .int sz0, .ref ak, .ref al, .ref af, .ref an, .int mm, .ref ar, .int sm]))] s.heap := hP
  have hl := lv_entry ([.ref h, .int y, .int x]) (n := 4) (Nat.le_of_ble_eq_true rfl)
  rw [lg_entry_eq]
  generalize (lg_sl ([.ref h, .int y, .int x]) ++ List.replicate (4 - (lg_sl ([.ref h, .int y, .int x])).length) Slot.unset).toArray = ls at hl ⊢
  have hl : lv_has ls 4 [(0, .ref h), (1, .int y), (2, .int x)] := hl
  refine lv_iload_n hx hb dX2_fill_0 rfl (lv_at hl 1 rfl) ?_
  refine lv_if_lt (tgt := 11) hx hb dX2_fill_1 (by decide) (fun hc => ?_) (fun hc => ?_)
  · skip
    refine lv_iconst (v := (-1)) hx hb dX2_fill_11 (by decide) ?_
    exact W.iret (v := (-1)) hx hb hr (fun t ht hW => ⟨(-1), rfl, rfl, ht⟩) (fun q h => by cases h) dX2_fill_12
  · skip
    refine lv_iload_n hx hb dX2_fill_4 rfl (lv_at hl 1 rfl) ?_
    refine lv_sipush (v := 4000) hx hb dX2_fill_5 (by decide) ?_
    refine lv_icmp_le (tgt := 13) hx hb dX2_fill_8 (by decide) (fun hc => ?_) (fun hc => ?_)
    · skip
      exact absurd hc (h1.elim (fun q => absurd q (by assumption)) (fun q => Int32.not_le.mpr q))
    · skip
      refine lv_iconst (v := (-1)) hx hb dX2_fill_11 (by decide) ?_
      exact W.iret (v := (-1)) hx hb hr (fun t ht hW => ⟨(-1), rfl, rfl, ht⟩) (fun q h => by cases h) dX2_fill_12

set_option maxHeartbeats 4000000 in
set_option maxRecDepth 100000 in
/-- fill -/
theorem r_fill_ok (l : Launch) (dC : Nat → ClassId) (dI : Nat → Nat → Nat) (sz : Nat) (h ac au ab ae am ap ak al af an ar : Nat) (cJ : ClassId) (sz0 sm : Int32) (n k : Nat) (bl fr fn f : Nat → Int32) (x : Int32) (h1 : k ≤ 4000) (h2 : n + k < 2 ^ 28) (hi : rf_inv f n bl fr) (hf : ∀ j, j < k → f (n + j) &&& 255 = (x + 3 * nI j) &&& 255) : Met l yX2_fill wsX2_fill ({ frames := 3, cells := 0, slots := 0, locals := 90 }) (va_Pc [.ref h, .int (nI k), .int x] (fun U => U.heap.size = sz ∧ va_P (dC, dI) vwCl [(h, .inr (2, [.ref ac, .ref au, .ref ab, .ref ae, .ref am, .ref ap, .int sz0, .ref ak, .ref al, .ref af, .ref an, .int (nI n), .ref ar, .int sm])), (ac, .inl (cJ, 64, .inl ks_k)), (au, .inl (cJ, 16, .inl ks_tt)), (ae, .inl (cJ, 4, .inl ks_tmI)), (am, .inl (cJ, 4, .inl ks_moI)), (al, .inl (cJ, 64, .inl bl)), (af, .inl (cJ, 4, .inl fr)), (an, .inl (cJ, 4, .inl fn))] U.heap ∧ va_K (dC, dI) vwCl [(cJ, .int)] U ∧ va_D (fun _ => True) [(h, .inr (2, [.ref ac, .ref au, .ref ab, .ref ae, .ref am, .ref ap, .int sz0, .ref ak, .ref al, .ref af, .ref an, .int (nI n), .ref ar, .int sm])), (ac, .inl (cJ, 64, .inl ks_k)), (au, .inl (cJ, 16, .inl ks_tt)), (ae, .inl (cJ, 4, .inl ks_tmI)), (am, .inl (cJ, 4, .inl ks_moI)), (al, .inl (cJ, 64, .inl bl)), (af, .inl (cJ, 4, .inl fr)), (an, .inl (cJ, 4, .inl fn))])) (va_Qi (fun (r : Int32) (u : (Nat → Int32) × (Nat → Int32) × (Nat → Int32)) => r = nI (n + k) ∧ rf_inv f (n + k) u.1 u.2.1) (fun (u : (Nat → Int32) × (Nat → Int32) × (Nat → Int32)) t => kz_B dC dI [(cJ, .int)] (va_A [(h, .inr (2, [.ref ac, .ref au, .ref ab, .ref ae, .ref am, .ref ap, .int sz0, .ref ak, .ref al, .ref af, .ref an, .int (nI n), .ref ar, .int sm])), (ac, .inl (cJ, 64, .inl ks_k)), (au, .inl (cJ, 16, .inl ks_tt)), (ae, .inl (cJ, 4, .inl ks_tmI)), (am, .inl (cJ, 4, .inl ks_moI)), (al, .inl (cJ, 64, .inl bl)), (af, .inl (cJ, 4, .inl fr)), (an, .inl (cJ, 4, .inl fn))] sz) [(h, .inr (2, [.ref ac, .ref au, .ref ab, .ref ae, .ref am, .ref ap, .int sz0, .ref ak, .ref al, .ref af, .ref an, .int (nI (n + k)), .ref ar, .int sm])), (ac, .inl (cJ, 64, .inl ks_k)), (au, .inl (cJ, 16, .inl ks_tt)), (ae, .inl (cJ, 4, .inl ks_tmI)), (am, .inl (cJ, 4, .inl ks_moI)), (al, .inl (cJ, 64, .inl u.1)), (af, .inl (cJ, 4, .inl u.2.1)), (an, .inl (cJ, 4, .inl u.2.2))] t) (va_A [(h, .inr (2, [.ref ac, .ref au, .ref ab, .ref ae, .ref am, .ref ap, .int sz0, .ref ak, .ref al, .ref af, .ref an, .int (nI n), .ref ar, .int sm])), (ac, .inl (cJ, 64, .inl ks_k)), (au, .inl (cJ, 16, .inl ks_tt)), (ae, .inl (cJ, 4, .inl ks_tmI)), (am, .inl (cJ, 4, .inl ks_moI)), (al, .inl (cJ, 64, .inl bl)), (af, .inl (cJ, 4, .inl fr)), (an, .inl (cJ, 4, .inl fn))] sz)) 0 0 (va_A [(h, .inr (2, [.ref ac, .ref au, .ref ab, .ref ae, .ref am, .ref ap, .int sz0, .ref ak, .ref al, .ref af, .ref an, .int (nI n), .ref ar, .int sm])), (ac, .inl (cJ, 64, .inl ks_k)), (au, .inl (cJ, 16, .inl ks_tt)), (ae, .inl (cJ, 4, .inl ks_tmI)), (am, .inl (cJ, 4, .inl ks_moI)), (al, .inl (cJ, 64, .inl bl)), (af, .inl (cJ, 4, .inl fr)), (an, .inl (cJ, 4, .inl fn))] sz) := by
  refine Met.ofW (cc := cX2_fill) (maxL := 4) (ret := (some .int)) (by decide) rfl ?_
  intro p e s m args below meth c s₁ B hml hv
  obtain ⟨rfl, hsz, hP, hK, hD0⟩ := hv
  have hx := B.exec
  have hb := B.bytes
  have hr := B.returns
  have hts := atoms_spec (ws := wsX2_fill) B.pre
  have hown : s.vm.findClass RX2 = some m.cls := findClass_of_methodNamed B.named
  have hlocks := B.notSynchronized
  subst hsz
  have hD := hD0.self (sz := s.heap.size)
  generalize hAe : va_A [(h, .inr (2, [.ref ac, .ref au, .ref ab, .ref ae, .ref am, .ref ap, .int sz0, .ref ak, .ref al, .ref af, .ref an, .int (nI n), .ref ar, .int sm])), (ac, .inl (cJ, 64, .inl ks_k)), (au, .inl (cJ, 16, .inl ks_tt)), (ae, .inl (cJ, 4, .inl ks_tmI)), (am, .inl (cJ, 4, .inl ks_moI)), (al, .inl (cJ, 64, .inl bl)), (af, .inl (cJ, 4, .inl fr)), (an, .inl (cJ, 4, .inl fn))] s.heap.size = A at hD  ⊢
  have hA : ∀ q : Nat, s.heap.size ≤ q → A q := fun q h => by rw [← hAe]; exact Or.inr h
  have hS : va_S A s.heap s.heap [] := va_S.rf
  have hP : va_P (dC, dI) vwCl [(h, .inr (2, [.ref ac, .ref au, .ref ab, .ref ae, .ref am, .ref ap, .int sz0, .ref ak, .ref al, .ref af, .ref an, .int (nI n), .ref ar, .int sm])), (ac, .inl (cJ, 64, .inl ks_k)), (au, .inl (cJ, 16, .inl ks_tt)), (ae, .inl (cJ, 4, .inl ks_tmI)), (am, .inl (cJ, 4, .inl ks_moI)), (al, .inl (cJ, 64, .inl bl)), (af, .inl (cJ, 4, .inl fr)), (an, .inl (cJ, 4, .inl fn))] s.heap := hP
  have hl := lv_entry ([.ref h, .int (nI k), .int x]) (n := 4) (Nat.le_of_ble_eq_true rfl)
  rw [lg_entry_eq]
  generalize (lg_sl ([.ref h, .int (nI k), .int x]) ++ List.replicate (4 - (lg_sl ([.ref h, .int (nI k), .int x])).length) Slot.unset).toArray = ls at hl ⊢
  have hl : lv_has ls 4 [(0, .ref h), (1, .int (nI k)), (2, .int x)] := hl
  refine lv_iload_n hx hb dX2_fill_0 rfl (lv_at hl 1 rfl) ?_
  refine lv_if_lt (tgt := 11) hx hb dX2_fill_1 (by decide) (fun hc => ?_) (fun hc => ?_)
  · skip
    exact absurd hc (nI_pos (n := k) (by omega))
  · skip
    refine lv_iload_n hx hb dX2_fill_4 rfl (lv_at hl 1 rfl) ?_
    refine lv_sipush (v := 4000) hx hb dX2_fill_5 (by decide) ?_
    refine lv_icmp_le (tgt := 13) hx hb dX2_fill_8 (by decide) (fun hc => ?_) (fun hc => ?_)
    · skip
      refine lv_iconst (v := 0) hx hb dX2_fill_13 (by decide) ?_
      refine kz_top (y := nI 0) nI_0.symm ?_
      refine lv_istore_n (lv' := [(3, .int (nI 0)), (0, .ref h), (1, .int (nI k)), (2, .int x)]) hx hb dX2_fill_14 rfl hl (by decide) rfl (fun ls hl => ?_)
      refine kz_loop (σ := (Nat → Int32) × (Nat → Int32) × (Nat → Int32)) (fun i y ls H locs => rf_inv f (n + i) y.1 y.2.1 ∧ lv_has ls 4 [(3, .int (nI i)), (0, .ref h), (1, .int (nI k)), (2, .int x)] ∧ va_P (dC, dI) vwCl [(h, .inr (2, [.ref ac, .ref au, .ref ab, .ref ae, .ref am, .ref ap, .int sz0, .ref ak, .ref al, .ref af, .ref an, .int (nI (n + i)), .ref ar, .int sm])), (ac, .inl (cJ, 64, .inl ks_k)), (au, .inl (cJ, 16, .inl ks_tt)), (ae, .inl (cJ, 4, .inl ks_tmI)), (am, .inl (cJ, 4, .inl ks_moI)), (al, .inl (cJ, 64, .inl y.1)), (af, .inl (cJ, 4, .inl y.2.1)), (an, .inl (cJ, 4, .inl y.2.2))] H ∧ va_D A [(h, .inr (2, [.ref ac, .ref au, .ref ab, .ref ae, .ref am, .ref ap, .int sz0, .ref ak, .ref al, .ref af, .ref an, .int (nI (n + i)), .ref ar, .int sm])), (ac, .inl (cJ, 64, .inl ks_k)), (au, .inl (cJ, 16, .inl ks_tt)), (ae, .inl (cJ, 4, .inl ks_tmI)), (am, .inl (cJ, 4, .inl ks_moI)), (al, .inl (cJ, 64, .inl y.1)), (af, .inl (cJ, 4, .inl y.2.1)), (an, .inl (cJ, 4, .inl y.2.2))] ∧ va_S A s.heap H locs) k ?_ ?_ 0 (bl, fr, fn) ls _ _ (Nat.zero_le _) ⟨hi, lv_sub hl [0, 1, 2, 3] rfl, hP, hD, hS⟩
      · skip
        intro i y ls H locs hlt hI ih
        obtain ⟨hv, hl, hP, hD, hS⟩ := hI
        refine lv_iload_n hx hb dX2_fill_15 rfl (lv_at hl 0 rfl) ?_
        refine lv_iload_n hx hb dX2_fill_16 rfl (lv_at hl 2 rfl) ?_
        refine lv_icmp_ge (tgt := 35) hx hb dX2_fill_17 (by decide) (fun hc => ?_) (fun hc => ?_)
        · skip
          exact absurd hc (nI_ge hlt (by omega))
        · skip
          refine lv_aload_n hx hb dX2_fill_20 rfl (lv_at hl 1 rfl) ?_
          refine lv_iload_n hx hb dX2_fill_21 rfl (lv_at hl 3 rfl) ?_
          refine lv_iconst (v := 3) hx hb dX2_fill_22 (by decide) ?_
          refine lv_iload_n hx hb dX2_fill_23 rfl (lv_at hl 0 rfl) ?_
          refine lv_imul hx hb dX2_fill_24 ?_
          refine lv_iadd hx hb dX2_fill_25 ?_
          have hPc := hP.sub (ws' := [(h, .inr (2, [.ref ac, .ref au, .ref ab, .ref ae, .ref am, .ref ap, .int sz0, .ref ak, .ref al, .ref af, .ref an, .int (nI (n + i)), .ref ar, .int sm])), (ac, .inl (cJ, 64, .inl ks_k)), (au, .inl (cJ, 16, .inl ks_tt)), (ae, .inl (cJ, 4, .inl ks_tmI)), (am, .inl (cJ, 4, .inl ks_moI)), (al, .inl (cJ, 64, .inl y.1)), (af, .inl (cJ, 4, .inl y.2.1)), (an, .inl (cJ, 4, .inl y.2.2))]) [0, 1, 2, 3, 4, 5, 6, 7] rfl
          have hDc := hD.sub (ws' := [(h, .inr (2, [.ref ac, .ref au, .ref ab, .ref ae, .ref am, .ref ap, .int sz0, .ref ak, .ref al, .ref af, .ref an, .int (nI (n + i)), .ref ar, .int sm])), (ac, .inl (cJ, 64, .inl ks_k)), (au, .inl (cJ, 16, .inl ks_tt)), (ae, .inl (cJ, 4, .inl ks_tmI)), (am, .inl (cJ, 4, .inl ks_moI)), (al, .inl (cJ, 64, .inl y.1)), (af, .inl (cJ, 4, .inl y.2.1)), (an, .inl (cJ, 4, .inl y.2.2))]) [0, 1, 2, 3, 4, 5, 6, 7] (by decide) rfl
          have hKc := hK.sub (tys' := [(cJ, .int)]) [0] rfl
          have hFc := va_free (wc := [(h, .inr (2, [.ref ac, .ref au, .ref ab, .ref ae, .ref am, .ref ap, .int sz0, .ref ak, .ref al, .ref af, .ref an, .int (nI (n + i)), .ref ar, .int sm])), (ac, .inl (cJ, 64, .inl ks_k)), (au, .inl (cJ, 16, .inl ks_tt)), (ae, .inl (cJ, 4, .inl ks_tmI)), (am, .inl (cJ, 4, .inl ks_moI)), (al, .inl (cJ, 64, .inl y.1)), (af, .inl (cJ, 4, .inl y.2.1)), (an, .inl (cJ, 4, .inl y.2.2))]) hD hS hA [0, 1, 2, 3, 4, 5, 6, 7] rfl
          refine va_callv (va_runV (As := [.int (x + (3 * (nI i)))]) (rest := []) ⟨hx, hb, hml, hown, hts⟩ (r_come l dC dI H.size h ac au ab ae am ap ak al af an ar cJ sz0 sm (n + i) y.1 y.2.1 y.2.2 f (x + 3 * nI i) (by omega) hv (hf i hlt)) (cwV 1 hts gX2_fill_X2_come rfl rfl rfl (by decide +kernel) ⟨Nat.le_of_ble_eq_true rfl, Nat.le_of_ble_eq_true rfl⟩) ⟨fun a U g mk q => by obtain ⟨q0, q1, qP, qK, qD⟩ := q; exact ⟨q0, q1, qP, va_K.moved (u := U) (U := U.calling g mk a) (Vm.Alike.refl U.vm) qK, qD⟩, va_recv hKc hPc (ci := 2) (q0 := 0) rfl rfl, fun U hU hW => ⟨rfl, by rw [hU], by rw [hU]; exact hPc, va_K.moved hW.alike hKc, hDc.weaken (fun _ _ _ _ => trivial)⟩⟩ rfl rfl hl.1 rfl (lv_room (Nat.le_of_ble_eq_true rfl)) dX2_fill_26 ⟨Nat.zero_le _, Nat.zero_le _⟩) hS (fun q _ h => hFc q h) hFc (fun u t H1 locs ht hvm hw hB hz1 hk1 hS => ?_)
          obtain ⟨b2, f2, n2⟩ := u
          obtain ⟨hP1, hK1, hD1⟩ := hB
          rw [ht] at hP1
          have hK1 := va_K.moved hvm.symm hK1
          try dsimp only at hw
          obtain ⟨hP, hD⟩ := va_join (wr := []) (w1 := [(h, .inr (2, [.ref ac, .ref au, .ref ab, .ref ae, .ref am, .ref ap, .int sz0, .ref ak, .ref al, .ref af, .ref an, .int (nI (n + i + 1)), .ref ar, .int sm])), (ac, .inl (cJ, 64, .inl ks_k)), (au, .inl (cJ, 16, .inl ks_tt)), (ae, .inl (cJ, 4, .inl ks_tmI)), (am, .inl (cJ, 4, .inl ks_moI)), (al, .inl (cJ, 64, .inl b2)), (af, .inl (cJ, 4, .inl f2)), (an, .inl (cJ, 4, .inl n2))]) hP hD [0, 1, 2, 3, 4, 5, 6, 7] [] rfl rfl (by decide) (by decide) hk1 hFc hP1 hD1
          have hP := hP.sub (ws' := [(h, .inr (2, [.ref ac, .ref au, .ref ab, .ref ae, .ref am, .ref ap, .int sz0, .ref ak, .ref al, .ref af, .ref an, .int (nI (n + i + 1)), .ref ar, .int sm])), (ac, .inl (cJ, 64, .inl ks_k)), (au, .inl (cJ, 16, .inl ks_tt)), (ae, .inl (cJ, 4, .inl ks_tmI)), (am, .inl (cJ, 4, .inl ks_moI)), (al, .inl (cJ, 64, .inl b2)), (af, .inl (cJ, 4, .inl f2)), (an, .inl (cJ, 4, .inl n2))]) [0, 1, 2, 3, 4, 5, 6, 7] rfl
          have hD := hD.sub (ws' := [(h, .inr (2, [.ref ac, .ref au, .ref ab, .ref ae, .ref am, .ref ap, .int sz0, .ref ak, .ref al, .ref af, .ref an, .int (nI (n + i + 1)), .ref ar, .int sm])), (ac, .inl (cJ, 64, .inl ks_k)), (au, .inl (cJ, 16, .inl ks_tt)), (ae, .inl (cJ, 4, .inl ks_tmI)), (am, .inl (cJ, 4, .inl ks_moI)), (al, .inl (cJ, 64, .inl b2)), (af, .inl (cJ, 4, .inl f2)), (an, .inl (cJ, 4, .inl n2))]) [0, 1, 2, 3, 4, 5, 6, 7] (by decide) rfl
          generalize H1 = H at hP hS ⊢
          have hP : va_P (dC, dI) vwCl [(h, .inr (2, [.ref ac, .ref au, .ref ab, .ref ae, .ref am, .ref ap, .int sz0, .ref ak, .ref al, .ref af, .ref an, .int (nI (n + i + 1)), .ref ar, .int sm])), (ac, .inl (cJ, 64, .inl ks_k)), (au, .inl (cJ, 16, .inl ks_tt)), (ae, .inl (cJ, 4, .inl ks_tmI)), (am, .inl (cJ, 4, .inl ks_moI)), (al, .inl (cJ, 64, .inl b2)), (af, .inl (cJ, 4, .inl f2)), (an, .inl (cJ, 4, .inl n2))] H := hP
          have hD : va_D A [(h, .inr (2, [.ref ac, .ref au, .ref ab, .ref ae, .ref am, .ref ap, .int sz0, .ref ak, .ref al, .ref af, .ref an, .int (nI (n + i + 1)), .ref ar, .int sm])), (ac, .inl (cJ, 64, .inl ks_k)), (au, .inl (cJ, 16, .inl ks_tt)), (ae, .inl (cJ, 4, .inl ks_tmI)), (am, .inl (cJ, 4, .inl ks_moI)), (al, .inl (cJ, 64, .inl b2)), (af, .inl (cJ, 4, .inl f2)), (an, .inl (cJ, 4, .inl n2))] := hD
          refine lv_iinc (v := nI (i + 1)) (lv' := [(3, .int (nI (i + 1))), (0, .ref h), (1, .int (nI k)), (2, .int x)]) hx hb dX2_fill_29 hl (k := 0) rfl (nI_1 i) (by decide) rfl (fun ls hl => ?_)
          refine lv_goto (tgt := 15) hx hb dX2_fill_32 (by decide) ?_
          exact ih (b2, f2, n2) ls H locs ⟨hw, lv_sub hl [0, 1, 2, 3] rfl, hP, hD, hS⟩
      · skip
        intro y ls H locs hI
        obtain ⟨hv, hl, hP, hD, hS⟩ := hI
        refine lv_iload_n hx hb dX2_fill_15 rfl (lv_at hl 0 rfl) ?_
        refine lv_iload_n hx hb dX2_fill_16 rfl (lv_at hl 2 rfl) ?_
        refine lv_icmp_ge (tgt := 35) hx hb dX2_fill_17 (by decide) (fun hc => ?_) (fun hc => ?_)
        · skip
          refine lv_aload_n hx hb dX2_fill_35 rfl (lv_at hl 1 rfl) ?_
          refine va_get (D := (dC, dI)) (ci := 2) (v := .int (nI (n + k))) (C := RX2) (T := TX2) (N := 14) hx hb hts (by decide +kernel) hown hK hP 0 rfl rfl 11 (by decide) (hts (.fieldLink RX2 114 "KeySumsModel" "many" "I") (by decide +kernel)) (fun _ h9 => h9) rfl dX2_fill_36 ?_
          have hP9 := hP.sub (ws' := [(h, .inr (2, [.ref ac, .ref au, .ref ab, .ref ae, .ref am, .ref ap, .int sz0, .ref ak, .ref al, .ref af, .ref an, .int (nI (n + k)), .ref ar, .int sm])), (ac, .inl (cJ, 64, .inl ks_k)), (au, .inl (cJ, 16, .inl ks_tt)), (ae, .inl (cJ, 4, .inl ks_tmI)), (am, .inl (cJ, 4, .inl ks_moI)), (al, .inl (cJ, 64, .inl y.1)), (af, .inl (cJ, 4, .inl y.2.1)), (an, .inl (cJ, 4, .inl y.2.2))]) [0, 1, 2, 3, 4, 5, 6, 7] rfl
          have hD9 := hD.sub (ws' := [(h, .inr (2, [.ref ac, .ref au, .ref ab, .ref ae, .ref am, .ref ap, .int sz0, .ref ak, .ref al, .ref af, .ref an, .int (nI (n + k)), .ref ar, .int sm])), (ac, .inl (cJ, 64, .inl ks_k)), (au, .inl (cJ, 16, .inl ks_tt)), (ae, .inl (cJ, 4, .inl ks_tmI)), (am, .inl (cJ, 4, .inl ks_moI)), (al, .inl (cJ, 64, .inl y.1)), (af, .inl (cJ, 4, .inl y.2.1)), (an, .inl (cJ, 4, .inl y.2.2))]) [0, 1, 2, 3, 4, 5, 6, 7] (by decide) rfl
          have hK9 := hK.sub (tys' := [(cJ, .int)]) [0] rfl
          exact W.iret (v := (nI (n + k))) hx hb hr (fun t ht hW => ⟨⟨(nI (n + k)), y, rfl, ⟨rfl, hv⟩, by rw [ht]; exact hP9, va_K.moved hW.alike hK9, hD9⟩, hS.F ht⟩) hS.2.2 dX2_fill_39
        · skip
          exact absurd (nI_le (Nat.le_refl _) (by omega)) hc
    · skip
      exact absurd (nI_le (a := k) (b := 4000) h1 (by decide)) hc

set_option maxHeartbeats 4000000 in
set_option maxRecDepth 100000 in
/-- key, too long -/
theorem r_key_no (l : Launch) (dC : Nat → ClassId) (dI : Nat → Nat → Nat) (sz : Nat) (h ac au ab ae am ap ak al af an ar : Nat) (cJ : ClassId) (mm sm : Int32) (tn : Nat) (ft fk : Nat → Int32) (h1 : 16 < tn) (h2 : tn ≤ 2000) : Met l yX2_key wsX2_key ({ frames := 0, cells := 0, slots := 0, locals := 0 }) (va_Pc [.ref h] (fun U => U.heap.size = sz ∧ va_P (dC, dI) vwCl [(h, .inr (2, [.ref ac, .ref au, .ref ab, .ref ae, .ref am, .ref ap, .int (nI tn), .ref ak, .ref al, .ref af, .ref an, .int mm, .ref ar, .int sm])), (ap, .inl (cJ, 2000, .inl ft)), (ak, .inl (cJ, 16, .inl fk))] U.heap ∧ va_K (dC, dI) vwCl [(cJ, .int)] U ∧ va_D (fun _ => True) [(h, .inr (2, [.ref ac, .ref au, .ref ab, .ref ae, .ref am, .ref ap, .int (nI tn), .ref ak, .ref al, .ref af, .ref an, .int mm, .ref ar, .int sm])), (ap, .inl (cJ, 2000, .inl ft)), (ak, .inl (cJ, 16, .inl fk))])) (va_Qi (fun (r : Int32) (_u : Unit) => r = -1) (fun (_u : Unit) t => kz_B dC dI [(cJ, .int)] (va_A [(h, .inr (2, [.ref ac, .ref au, .ref ab, .ref ae, .ref am, .ref ap, .int (nI tn), .ref ak, .ref al, .ref af, .ref an, .int mm, .ref ar, .int sm])), (ap, .inl (cJ, 2000, .inl ft)), (ak, .inl (cJ, 16, .inl fk))] sz) [(h, .inr (2, [.ref ac, .ref au, .ref ab, .ref ae, .ref am, .ref ap, .int (nI 0), .ref ak, .ref al, .ref af, .ref an, .int mm, .ref ar, .int sm])), (ap, .inl (cJ, 2000, .inl ft)), (ak, .inl (cJ, 16, .inl fk))] t) (va_A [(h, .inr (2, [.ref ac, .ref au, .ref ab, .ref ae, .ref am, .ref ap, .int (nI tn), .ref ak, .ref al, .ref af, .ref an, .int mm, .ref ar, .int sm])), (ap, .inl (cJ, 2000, .inl ft)), (ak, .inl (cJ, 16, .inl fk))] sz)) 0 0 (va_A [(h, .inr (2, [.ref ac, .ref au, .ref ab, .ref ae, .ref am, .ref ap, .int (nI tn), .ref ak, .ref al, .ref af, .ref an, .int mm, .ref ar, .int sm])), (ap, .inl (cJ, 2000, .inl ft)), (ak, .inl (cJ, 16, .inl fk))] sz) := by
  refine Met.ofW (cc := cX2_key) (maxL := 3) (ret := (some .int)) (by decide) rfl ?_
  intro p e s m args below meth c s₁ B hml hv
  obtain ⟨rfl, hsz, hP, hK, hD0⟩ := hv
  have hx := B.exec
  have hb := B.bytes
  have hr := B.returns
  have hts := atoms_spec (ws := wsX2_key) B.pre
  have hown : s.vm.findClass RX2 = some m.cls := findClass_of_methodNamed B.named
  have hlocks := B.notSynchronized
  subst hsz
  have hD := hD0.self (sz := s.heap.size)
  generalize hAe : va_A [(h, .inr (2, [.ref ac, .ref au, .ref ab, .ref ae, .ref am, .ref ap, .int (nI tn), .ref ak, .ref al, .ref af, .ref an, .int mm, .ref ar, .int sm])), (ap, .inl (cJ, 2000, .inl ft)), (ak, .inl (cJ, 16, .inl fk))] s.heap.size = A at hD  ⊢
  have hA : ∀ q : Nat, s.heap.size ≤ q → A q := fun q h => by rw [← hAe]; exact Or.inr h
  have hS : va_S A s.heap s.heap [] := va_S.rf
  have hP : va_P (dC, dI) vwCl [(h, .inr (2, [.ref ac, .ref au, .ref ab, .ref ae, .ref am, .ref ap, .int (nI tn), .ref ak, .ref al, .ref af, .ref an, .int mm, .ref ar, .int sm])), (ap, .inl (cJ, 2000, .inl ft)), (ak, .inl (cJ, 16, .inl fk))] s.heap := hP
  have hl := lv_entry ([.ref h]) (n := 3) (Nat.le_of_ble_eq_true rfl)
  rw [lg_entry_eq]
  generalize (lg_sl ([.ref h]) ++ List.replicate (3 - (lg_sl ([.ref h])).length) Slot.unset).toArray = ls at hl ⊢
  have hl : lv_has ls 3 [(0, .ref h)] := hl
  refine lv_aload_n hx hb dX2_key_0 rfl (lv_at hl 0 rfl) ?_
  refine va_get (D := (dC, dI)) (ci := 2) (v := .int (nI tn)) (C := RX2) (T := TX2) (N := 14) hx hb hts (by decide +kernel) hown hK hP 0 rfl rfl 6 (by decide) (hts (.fieldLink RX2 118 "KeySumsModel" "size" "I") (by decide +kernel)) (fun _ h9 => h9) rfl dX2_key_1 ?_
  refine lv_istore_n (lv' := [(1, .int (nI tn)), (0, .ref h)]) hx hb dX2_key_4 rfl hl (by decide) rfl (fun ls hl => ?_)
  refine lv_aload_n hx hb dX2_key_5 rfl (lv_at hl 1 rfl) ?_
  refine lv_iconst (v := 0) hx hb dX2_key_6 (by decide) ?_
  refine kz_top (y := nI 0) nI_0.symm ?_
  refine va_put (D := (dC, dI)) (ci := 2) (v := .int (nI 0)) (ty := .int) (C := RX2) (T := TX2) (N := 14) hx hb hts (by decide +kernel) tyX2 tyX2_ok nmX2 hown hK hP hD hS 0 rfl rfl 6 (by decide) (hts (.fieldLink RX2 118 "KeySumsModel" "size" "I") (by decide +kernel)) (fun _ h9 => h9) rfl (by decide +kernel) rfl rfl (Nat.le_of_ble_eq_true rfl) dX2_key_7 (fun H locs hP hD hS => ?_)
  have hP : va_P (dC, dI) vwCl [(h, .inr (2, [.ref ac, .ref au, .ref ab, .ref ae, .ref am, .ref ap, .int (nI 0), .ref ak, .ref al, .ref af, .ref an, .int mm, .ref ar, .int sm])), (ap, .inl (cJ, 2000, .inl ft)), (ak, .inl (cJ, 16, .inl fk))] H := hP
  have hD : va_D A [(h, .inr (2, [.ref ac, .ref au, .ref ab, .ref ae, .ref am, .ref ap, .int (nI 0), .ref ak, .ref al, .ref af, .ref an, .int mm, .ref ar, .int sm])), (ap, .inl (cJ, 2000, .inl ft)), (ak, .inl (cJ, 16, .inl fk))] := hD
  refine lv_iload_n hx hb dX2_key_10 rfl (lv_at hl 0 rfl) ?_
  refine lv_bipush (v := 16) hx hb dX2_key_11 (by decide) ?_
  refine lv_icmp_le (tgt := 18) hx hb dX2_key_13 (by decide) (fun hc => ?_) (fun hc => ?_)
  · skip
    exact absurd hc (nI_ge (a := 16) (b := tn) h1 (by omega))
  · skip
    refine lv_iconst (v := (-1)) hx hb dX2_key_16 (by decide) ?_
    have hP9 := hP.sub (ws' := [(h, .inr (2, [.ref ac, .ref au, .ref ab, .ref ae, .ref am, .ref ap, .int (nI 0), .ref ak, .ref al, .ref af, .ref an, .int mm, .ref ar, .int sm])), (ap, .inl (cJ, 2000, .inl ft)), (ak, .inl (cJ, 16, .inl fk))]) [0, 1, 2] rfl
    have hD9 := hD.sub (ws' := [(h, .inr (2, [.ref ac, .ref au, .ref ab, .ref ae, .ref am, .ref ap, .int (nI 0), .ref ak, .ref al, .ref af, .ref an, .int mm, .ref ar, .int sm])), (ap, .inl (cJ, 2000, .inl ft)), (ak, .inl (cJ, 16, .inl fk))]) [0, 1, 2] (by decide) rfl
    have hK9 := hK.sub (tys' := [(cJ, .int)]) [0] rfl
    exact W.iret (v := (-1)) hx hb hr (fun t ht hW => ⟨⟨(-1), (), rfl, rfl, by rw [ht]; exact hP9, va_K.moved hW.alike hK9, hD9⟩, hS.F ht⟩) hS.2.2 dX2_key_17

set_option maxHeartbeats 4000000 in
set_option maxRecDepth 100000 in
/-- key -/
theorem r_key_ok (l : Launch) (dC : Nat → ClassId) (dI : Nat → Nat → Nat) (sz : Nat) (h ac au ab ae am ap ak al af an ar : Nat) (cJ : ClassId) (mm sm : Int32) (tn : Nat) (ft fk : Nat → Int32) (h1 : tn ≤ 16) : Met l yX2_key wsX2_key ({ frames := 0, cells := 0, slots := 0, locals := 0 }) (va_Pc [.ref h] (fun U => U.heap.size = sz ∧ va_P (dC, dI) vwCl [(h, .inr (2, [.ref ac, .ref au, .ref ab, .ref ae, .ref am, .ref ap, .int (nI tn), .ref ak, .ref al, .ref af, .ref an, .int mm, .ref ar, .int sm])), (ap, .inl (cJ, 2000, .inl ft)), (ak, .inl (cJ, 16, .inl fk))] U.heap ∧ va_K (dC, dI) vwCl [(cJ, .int)] U ∧ va_D (fun _ => True) [(h, .inr (2, [.ref ac, .ref au, .ref ab, .ref ae, .ref am, .ref ap, .int (nI tn), .ref ak, .ref al, .ref af, .ref an, .int mm, .ref ar, .int sm])), (ap, .inl (cJ, 2000, .inl ft)), (ak, .inl (cJ, 16, .inl fk))])) (va_Qi (fun (r : Int32) (u : Nat → Int32) => r = nI tn ∧ ∀ j, j < 16 → u j = if j < tn then ft j else 0) (fun (u : Nat → Int32) t => kz_B dC dI [(cJ, .int)] (va_A [(h, .inr (2, [.ref ac, .ref au, .ref ab, .ref ae, .ref am, .ref ap, .int (nI tn), .ref ak, .ref al, .ref af, .ref an, .int mm, .ref ar, .int sm])), (ap, .inl (cJ, 2000, .inl ft)), (ak, .inl (cJ, 16, .inl fk))] sz) [(h, .inr (2, [.ref ac, .ref au, .ref ab, .ref ae, .ref am, .ref ap, .int (nI 0), .ref ak, .ref al, .ref af, .ref an, .int mm, .ref ar, .int sm])), (ap, .inl (cJ, 2000, .inl ft)), (ak, .inl (cJ, 16, .inl u))] t) (va_A [(h, .inr (2, [.ref ac, .ref au, .ref ab, .ref ae, .ref am, .ref ap, .int (nI tn), .ref ak, .ref al, .ref af, .ref an, .int mm, .ref ar, .int sm])), (ap, .inl (cJ, 2000, .inl ft)), (ak, .inl (cJ, 16, .inl fk))] sz)) 0 0 (va_A [(h, .inr (2, [.ref ac, .ref au, .ref ab, .ref ae, .ref am, .ref ap, .int (nI tn), .ref ak, .ref al, .ref af, .ref an, .int mm, .ref ar, .int sm])), (ap, .inl (cJ, 2000, .inl ft)), (ak, .inl (cJ, 16, .inl fk))] sz) := by
  refine Met.ofW (cc := cX2_key) (maxL := 3) (ret := (some .int)) (by decide) rfl ?_
  intro p e s m args below meth c s₁ B hml hv
  obtain ⟨rfl, hsz, hP, hK, hD0⟩ := hv
  have hx := B.exec
  have hb := B.bytes
  have hr := B.returns
  have hts := atoms_spec (ws := wsX2_key) B.pre
  have hown : s.vm.findClass RX2 = some m.cls := findClass_of_methodNamed B.named
  have hlocks := B.notSynchronized
  subst hsz
  have hD := hD0.self (sz := s.heap.size)
  generalize hAe : va_A [(h, .inr (2, [.ref ac, .ref au, .ref ab, .ref ae, .ref am, .ref ap, .int (nI tn), .ref ak, .ref al, .ref af, .ref an, .int mm, .ref ar, .int sm])), (ap, .inl (cJ, 2000, .inl ft)), (ak, .inl (cJ, 16, .inl fk))] s.heap.size = A at hD  ⊢
  have hA : ∀ q : Nat, s.heap.size ≤ q → A q := fun q h => by rw [← hAe]; exact Or.inr h
  have hS : va_S A s.heap s.heap [] := va_S.rf
  have hP : va_P (dC, dI) vwCl [(h, .inr (2, [.ref ac, .ref au, .ref ab, .ref ae, .ref am, .ref ap, .int (nI tn), .ref ak, .ref al, .ref af, .ref an, .int mm, .ref ar, .int sm])), (ap, .inl (cJ, 2000, .inl ft)), (ak, .inl (cJ, 16, .inl fk))] s.heap := hP
  have hl := lv_entry ([.ref h]) (n := 3) (Nat.le_of_ble_eq_true rfl)
  rw [lg_entry_eq]
  generalize (lg_sl ([.ref h]) ++ List.replicate (3 - (lg_sl ([.ref h])).length) Slot.unset).toArray = ls at hl ⊢
  have hl : lv_has ls 3 [(0, .ref h)] := hl
  refine lv_aload_n hx hb dX2_key_0 rfl (lv_at hl 0 rfl) ?_
  refine va_get (D := (dC, dI)) (ci := 2) (v := .int (nI tn)) (C := RX2) (T := TX2) (N := 14) hx hb hts (by decide +kernel) hown hK hP 0 rfl rfl 6 (by decide) (hts (.fieldLink RX2 118 "KeySumsModel" "size" "I") (by decide +kernel)) (fun _ h9 => h9) rfl dX2_key_1 ?_
  refine lv_istore_n (lv' := [(1, .int (nI tn)), (0, .ref h)]) hx hb dX2_key_4 rfl hl (by decide) rfl (fun ls hl => ?_)
  refine lv_aload_n hx hb dX2_key_5 rfl (lv_at hl 1 rfl) ?_
  refine lv_iconst (v := 0) hx hb dX2_key_6 (by decide) ?_
  refine kz_top (y := nI 0) nI_0.symm ?_
  refine va_put (D := (dC, dI)) (ci := 2) (v := .int (nI 0)) (ty := .int) (C := RX2) (T := TX2) (N := 14) hx hb hts (by decide +kernel) tyX2 tyX2_ok nmX2 hown hK hP hD hS 0 rfl rfl 6 (by decide) (hts (.fieldLink RX2 118 "KeySumsModel" "size" "I") (by decide +kernel)) (fun _ h9 => h9) rfl (by decide +kernel) rfl rfl (Nat.le_of_ble_eq_true rfl) dX2_key_7 (fun H locs hP hD hS => ?_)
  have hP : va_P (dC, dI) vwCl [(h, .inr (2, [.ref ac, .ref au, .ref ab, .ref ae, .ref am, .ref ap, .int (nI 0), .ref ak, .ref al, .ref af, .ref an, .int mm, .ref ar, .int sm])), (ap, .inl (cJ, 2000, .inl ft)), (ak, .inl (cJ, 16, .inl fk))] H := hP
  have hD : va_D A [(h, .inr (2, [.ref ac, .ref au, .ref ab, .ref ae, .ref am, .ref ap, .int (nI 0), .ref ak, .ref al, .ref af, .ref an, .int mm, .ref ar, .int sm])), (ap, .inl (cJ, 2000, .inl ft)), (ak, .inl (cJ, 16, .inl fk))] := hD
  refine lv_iload_n hx hb dX2_key_10 rfl (lv_at hl 0 rfl) ?_
  refine lv_bipush (v := 16) hx hb dX2_key_11 (by decide) ?_
  refine lv_icmp_le (tgt := 18) hx hb dX2_key_13 (by decide) (fun hc => ?_) (fun hc => ?_)
  · skip
    refine lv_iconst (v := 0) hx hb dX2_key_18 (by decide) ?_
    refine kz_top (y := nI 0) nI_0.symm ?_
    refine lv_istore_n (lv' := [(2, .int (nI 0)), (1, .int (nI tn)), (0, .ref h)]) hx hb dX2_key_19 rfl hl (by decide) rfl (fun ls hl => ?_)
    refine kz_loop (σ := Nat → Int32) (fun i x ls H locs => (∀ j, j < i → x j = if j < tn then ft j else 0) ∧ lv_has ls 3 [(2, .int (nI i)), (1, .int (nI tn)), (0, .ref h)] ∧ va_P (dC, dI) vwCl [(h, .inr (2, [.ref ac, .ref au, .ref ab, .ref ae, .ref am, .ref ap, .int (nI 0), .ref ak, .ref al, .ref af, .ref an, .int mm, .ref ar, .int sm])), (ap, .inl (cJ, 2000, .inl ft)), (ak, .inl (cJ, 16, .inl x))] H ∧ va_D A [(h, .inr (2, [.ref ac, .ref au, .ref ab, .ref ae, .ref am, .ref ap, .int (nI 0), .ref ak, .ref al, .ref af, .ref an, .int mm, .ref ar, .int sm])), (ap, .inl (cJ, 2000, .inl ft)), (ak, .inl (cJ, 16, .inl x))] ∧ va_S A s.heap H locs) 16 ?_ ?_ 0 fk ls _ _ (Nat.zero_le _) ⟨fun j hj => absurd hj (Nat.not_lt_zero j), lv_sub hl [0, 1, 2] rfl, hP, hD, hS⟩
    · skip
      intro i x ls H locs hlt hI ih
      obtain ⟨hv, hl, hP, hD, hS⟩ := hI
      refine lv_iload_n hx hb dX2_key_20 rfl (lv_at hl 0 rfl) ?_
      refine lv_bipush (v := 16) hx hb dX2_key_21 (by decide) ?_
      refine lv_icmp_ge (tgt := 53) hx hb dX2_key_23 (by decide) (fun hc => ?_) (fun hc => ?_)
      · skip
        exact absurd hc (nI_ge (a := i) (b := 16) hlt (by decide))
      · skip
        refine lv_aload_n hx hb dX2_key_26 rfl (lv_at hl 2 rfl) ?_
        refine va_get (D := (dC, dI)) (ci := 2) (v := .ref ak) (C := RX2) (T := TX2) (N := 14) hx hb hts (by decide +kernel) hown hK hP 0 rfl rfl 7 (by decide) (hts (.fieldLink RX2 96 "KeySumsModel" "key" "[I") (by decide +kernel)) (fun _ h9 => h9) rfl dX2_key_27 ?_
        refine lv_iload_n hx hb dX2_key_30 rfl (lv_at hl 0 rfl) ?_
        refine lv_iload_n hx hb dX2_key_31 rfl (lv_at hl 0 rfl) ?_
        refine lv_iload_n hx hb dX2_key_32 rfl (lv_at hl 1 rfl) ?_
        refine lv_icmp_ge (tgt := 45) hx hb dX2_key_33 (by decide) (fun hc => ?_) (fun hc => ?_)
        · skip
          have hge : ¬ i < tn := fun q => absurd hc (nI_ge q (by omega))
          refine lv_iconst (v := 0) hx hb dX2_key_45 (by decide) ?_
          refine kz_iast (j := i) hx hb hK hP hD hS 2 0 rfl rfl (hlt) (by decide) dX2_key_46 (fun H locs hP hD hS => ?_)
          have hP : va_P (dC, dI) vwCl [(h, .inr (2, [.ref ac, .ref au, .ref ab, .ref ae, .ref am, .ref ap, .int (nI 0), .ref ak, .ref al, .ref af, .ref an, .int mm, .ref ar, .int sm])), (ap, .inl (cJ, 2000, .inl ft)), (ak, .inl (cJ, 16, .inl (upd x i 0)))] H := hP
          have hD : va_D A [(h, .inr (2, [.ref ac, .ref au, .ref ab, .ref ae, .ref am, .ref ap, .int (nI 0), .ref ak, .ref al, .ref af, .ref an, .int mm, .ref ar, .int sm])), (ap, .inl (cJ, 2000, .inl ft)), (ak, .inl (cJ, 16, .inl (upd x i 0)))] := hD
          refine lv_iinc (v := nI (i + 1)) (lv' := [(2, .int (nI (i + 1))), (1, .int (nI tn)), (0, .ref h)]) hx hb dX2_key_47 hl (k := 0) rfl (nI_1 i) (by decide) rfl (fun ls hl => ?_)
          refine lv_goto (tgt := 20) hx hb dX2_key_50 (by decide) ?_
          refine ih _ ls H locs ⟨?_, lv_sub hl [0, 1, 2] rfl, hP, hD, hS⟩
          intro j hj
          by_cases q : j = i
          · subst q; rw [pk_us, if_neg hge]
          · rw [pk_un q]; exact hv j (by omega)
        · skip
          have hlt2 : i < tn := by
            rcases Nat.lt_or_ge i tn with q | q
            · exact q
            · exact absurd (nI_le q (by omega)) hc
          refine lv_aload_n hx hb dX2_key_36 rfl (lv_at hl 2 rfl) ?_
          refine va_get (D := (dC, dI)) (ci := 2) (v := .ref ap) (C := RX2) (T := TX2) (N := 14) hx hb hts (by decide +kernel) hown hK hP 0 rfl rfl 5 (by decide) (hts (.fieldLink RX2 93 "KeySumsModel" "tape" "[I") (by decide +kernel)) (fun _ h9 => h9) rfl dX2_key_37 ?_
          refine lv_iload_n hx hb dX2_key_40 rfl (lv_at hl 0 rfl) ?_
          refine kz_iald (j := i) hx hb hK hP 1 0 rfl rfl (show i < 2000 by omega) (by decide) dX2_key_41 ?_
          refine lv_goto (tgt := 46) hx hb dX2_key_42 (by decide) ?_
          refine kz_iast (j := i) hx hb hK hP hD hS 2 0 rfl rfl (hlt) (by decide) dX2_key_46 (fun H locs hP hD hS => ?_)
          have hP : va_P (dC, dI) vwCl [(h, .inr (2, [.ref ac, .ref au, .ref ab, .ref ae, .ref am, .ref ap, .int (nI 0), .ref ak, .ref al, .ref af, .ref an, .int mm, .ref ar, .int sm])), (ap, .inl (cJ, 2000, .inl ft)), (ak, .inl (cJ, 16, .inl (upd x i (ft i))))] H := hP
          have hD : va_D A [(h, .inr (2, [.ref ac, .ref au, .ref ab, .ref ae, .ref am, .ref ap, .int (nI 0), .ref ak, .ref al, .ref af, .ref an, .int mm, .ref ar, .int sm])), (ap, .inl (cJ, 2000, .inl ft)), (ak, .inl (cJ, 16, .inl (upd x i (ft i))))] := hD
          refine lv_iinc (v := nI (i + 1)) (lv' := [(2, .int (nI (i + 1))), (1, .int (nI tn)), (0, .ref h)]) hx hb dX2_key_47 hl (k := 0) rfl (nI_1 i) (by decide) rfl (fun ls hl => ?_)
          refine lv_goto (tgt := 20) hx hb dX2_key_50 (by decide) ?_
          refine ih _ ls H locs ⟨?_, lv_sub hl [0, 1, 2] rfl, hP, hD, hS⟩
          intro j hj
          by_cases q : j = i
          · subst q; rw [pk_us, if_pos hlt2]
          · rw [pk_un q]; exact hv j (by omega)
    · skip
      intro x ls H locs hI
      obtain ⟨hv, hl, hP, hD, hS⟩ := hI
      refine lv_iload_n hx hb dX2_key_20 rfl (lv_at hl 0 rfl) ?_
      refine lv_bipush (v := 16) hx hb dX2_key_21 (by decide) ?_
      refine lv_icmp_ge (tgt := 53) hx hb dX2_key_23 (by decide) (fun hc => ?_) (fun hc => ?_)
      · skip
        refine lv_iload_n hx hb dX2_key_53 rfl (lv_at hl 1 rfl) ?_
        have hP9 := hP.sub (ws' := [(h, .inr (2, [.ref ac, .ref au, .ref ab, .ref ae, .ref am, .ref ap, .int (nI 0), .ref ak, .ref al, .ref af, .ref an, .int mm, .ref ar, .int sm])), (ap, .inl (cJ, 2000, .inl ft)), (ak, .inl (cJ, 16, .inl x))]) [0, 1, 2] rfl
        have hD9 := hD.sub (ws' := [(h, .inr (2, [.ref ac, .ref au, .ref ab, .ref ae, .ref am, .ref ap, .int (nI 0), .ref ak, .ref al, .ref af, .ref an, .int mm, .ref ar, .int sm])), (ap, .inl (cJ, 2000, .inl ft)), (ak, .inl (cJ, 16, .inl x))]) [0, 1, 2] (by decide) rfl
        have hK9 := hK.sub (tys' := [(cJ, .int)]) [0] rfl
        exact W.iret (v := (nI tn)) hx hb hr (fun t ht hW => ⟨⟨(nI tn), x, rfl, ⟨rfl, hv⟩, by rw [ht]; exact hP9, va_K.moved hW.alike hK9, hD9⟩, hS.F ht⟩) hS.2.2 dX2_key_54
      · skip
        exact absurd (nI_le (a := 16) (b := 16) (Nat.le_refl _) (by decide)) hc
  · skip
    exact absurd (nI_le (a := tn) (b := 16) h1 (by decide)) hc

set_option maxHeartbeats 4000000 in
set_option maxRecDepth 100000 in
/-- sumAt, none -/
theorem r_sumAt_no (l : Launch) (dC : Nat → ClassId) (dI : Nat → Nat → Nat) (sz : Nat) (h ac au ab ae am ap ak al af an ar : Nat) (cJ : ClassId) (sz0 mm sm : Int32) (rs : Nat → Int32) (x : Int32) (h1 : sm = 0 ∨ x < 0 ∨ 16 ≤ x) : Met l yX2_sumAt wsX2_sumAt ({ frames := 0, cells := 0, slots := 0, locals := 0 }) (va_Pc [.ref h, .int x] (fun U => U.heap.size = sz ∧ va_P (dC, dI) vwCl [(h, .inr (2, [.ref ac, .ref au, .ref ab, .ref ae, .ref am, .ref ap, .int sz0, .ref ak, .ref al, .ref af, .ref an, .int mm, .ref ar, .int sm])), (ar, .inl (cJ, 16, .inl rs))] U.heap ∧ va_K (dC, dI) vwCl [(cJ, .int)] U ∧ va_D (fun _ => True) [(h, .inr (2, [.ref ac, .ref au, .ref ab, .ref ae, .ref am, .ref ap, .int sz0, .ref ak, .ref al, .ref af, .ref an, .int mm, .ref ar, .int sm])), (ar, .inl (cJ, 16, .inl rs))])) (vp_Si (fun r => r = -1)) 0 0 (fun _ => False) := by
  refine Met.ofW (cc := cX2_sumAt) (maxL := 2) (ret := (some .int)) (by decide) rfl ?_
  intro p e s m args below meth c s₁ B hml hv
  obtain ⟨rfl, hsz, hP, hK, hD0⟩ := hv
  have hx := B.exec
  have hb := B.bytes
  have hr := B.returns
  have hts := atoms_spec (ws := wsX2_sumAt) B.pre
  have hown : s.vm.findClass RX2 = some m.cls := findClass_of_methodNamed B.named
  have hlocks := B.notSynchronized
  subst hsz
  have hD := hD0.self (sz := s.heap.size)
  generalize hAe : va_A [(h, .inr (2, [.ref ac, .ref au, .ref ab, .ref ae, .ref am, .ref ap, .int sz0, .ref ak, .ref al, .ref af, .ref an, .int mm, .ref ar, .int sm])), (ar, .inl (cJ, 16, .inl rs))] s.heap.size = A at hD  ⊢
  have hA : ∀ q : Nat, s.heap.size ≤ q → A q := fun q h => by rw [← hAe]; exact Or.inr h
  have hS : va_S A s.heap s.heap [] := va_S.rf
  have hP : va_P (dC, dI) vwCl [(h, .inr (2, [.ref ac, .ref au, .ref ab, .ref ae, .ref am, .ref ap, .int sz0, .ref ak, .ref al, .ref af, .ref an, .int mm, .ref ar, .int sm])), (ar, .inl (cJ, 16, .inl rs))] s.heap := hP
  have hl := lv_entry ([.ref h, .int x]) (n := 2) (Nat.le_of_ble_eq_true rfl)
  rw [lg_entry_eq]
  generalize (lg_sl ([.ref h, .int x]) ++ List.replicate (2 - (lg_sl ([.ref h, .int x])).length) Slot.unset).toArray = ls at hl ⊢
  have hl : lv_has ls 2 [(0, .ref h), (1, .int x)] := hl
  refine lv_aload_n hx hb dX2_sumAt_0 rfl (lv_at hl 0 rfl) ?_
  refine va_get (D := (dC, dI)) (ci := 2) (v := .int sm) (C := RX2) (T := TX2) (N := 14) hx hb hts (by decide +kernel) hown hK hP 0 rfl rfl 13 (by decide) (hts (.fieldLink RX2 140 "KeySumsModel" "isSummed" "Z") (by decide +kernel)) (fun _ h9 => h9) rfl dX2_sumAt_1 ?_
  refine lv_if_eq (tgt := 26) hx hb dX2_sumAt_4 (by decide) (fun hc => ?_) (fun hc => ?_)
  · skip
    refine lv_iconst (v := (-1)) hx hb dX2_sumAt_26 (by decide) ?_
    exact W.iret (v := (-1)) hx hb hr (fun t ht hW => ⟨(-1), rfl, rfl, ht⟩) (fun q h => by cases h) dX2_sumAt_27
  · skip
    have h1 := h1.resolve_left hc
    refine lv_iload_n hx hb dX2_sumAt_7 rfl (lv_at hl 1 rfl) ?_
    refine lv_if_lt (tgt := 26) hx hb dX2_sumAt_8 (by decide) (fun hc => ?_) (fun hc => ?_)
    · skip
      refine lv_iconst (v := (-1)) hx hb dX2_sumAt_26 (by decide) ?_
      exact W.iret (v := (-1)) hx hb hr (fun t ht hW => ⟨(-1), rfl, rfl, ht⟩) (fun q h => by cases h) dX2_sumAt_27
    · skip
      have h1 := h1.resolve_left hc
      refine lv_iload_n hx hb dX2_sumAt_11 rfl (lv_at hl 1 rfl) ?_
      refine lv_bipush (v := 16) hx hb dX2_sumAt_12 (by decide) ?_
      refine lv_icmp_ge (tgt := 26) hx hb dX2_sumAt_14 (by decide) (fun hc => ?_) (fun hc => ?_)
      · skip
        refine lv_iconst (v := (-1)) hx hb dX2_sumAt_26 (by decide) ?_
        exact W.iret (v := (-1)) hx hb hr (fun t ht hW => ⟨(-1), rfl, rfl, ht⟩) (fun q h => by cases h) dX2_sumAt_27
      · skip
        exact absurd h1 hc

set_option maxHeartbeats 4000000 in
set_option maxRecDepth 100000 in
/-- sumAt -/
theorem r_sumAt_ok (l : Launch) (dC : Nat → ClassId) (dI : Nat → Nat → Nat) (sz : Nat) (h ac au ab ae am ap ak al af an ar : Nat) (cJ : ClassId) (sz0 mm : Int32) (rs : Nat → Int32) (i : Nat) (h1 : i < 16) : Met l yX2_sumAt wsX2_sumAt ({ frames := 0, cells := 0, slots := 0, locals := 0 }) (va_Pc [.ref h, .int (nI i)] (fun U => U.heap.size = sz ∧ va_P (dC, dI) vwCl [(h, .inr (2, [.ref ac, .ref au, .ref ab, .ref ae, .ref am, .ref ap, .int sz0, .ref ak, .ref al, .ref af, .ref an, .int mm, .ref ar, .int 1])), (ar, .inl (cJ, 16, .inl rs))] U.heap ∧ va_K (dC, dI) vwCl [(cJ, .int)] U ∧ va_D (fun _ => True) [(h, .inr (2, [.ref ac, .ref au, .ref ab, .ref ae, .ref am, .ref ap, .int sz0, .ref ak, .ref al, .ref af, .ref an, .int mm, .ref ar, .int 1])), (ar, .inl (cJ, 16, .inl rs))])) (vp_Si (fun r => r = rs i)) 0 0 (fun _ => False) := by
  refine Met.ofW (cc := cX2_sumAt) (maxL := 2) (ret := (some .int)) (by decide) rfl ?_
  intro p e s m args below meth c s₁ B hml hv
  obtain ⟨rfl, hsz, hP, hK, hD0⟩ := hv
  have hx := B.exec
  have hb := B.bytes
  have hr := B.returns
  have hts := atoms_spec (ws := wsX2_sumAt) B.pre
  have hown : s.vm.findClass RX2 = some m.cls := findClass_of_methodNamed B.named
  have hlocks := B.notSynchronized
  subst hsz
  have hD := hD0.self (sz := s.heap.size)
  generalize hAe : va_A [(h, .inr (2, [.ref ac, .ref au, .ref ab, .ref ae, .ref am, .ref ap, .int sz0, .ref ak, .ref al, .ref af, .ref an, .int mm, .ref ar, .int 1])), (ar, .inl (cJ, 16, .inl rs))] s.heap.size = A at hD  ⊢
  have hA : ∀ q : Nat, s.heap.size ≤ q → A q := fun q h => by rw [← hAe]; exact Or.inr h
  have hS : va_S A s.heap s.heap [] := va_S.rf
  have hP : va_P (dC, dI) vwCl [(h, .inr (2, [.ref ac, .ref au, .ref ab, .ref ae, .ref am, .ref ap, .int sz0, .ref ak, .ref al, .ref af, .ref an, .int mm, .ref ar, .int 1])), (ar, .inl (cJ, 16, .inl rs))] s.heap := hP
  have hl := lv_entry ([.ref h, .int (nI i)]) (n := 2) (Nat.le_of_ble_eq_true rfl)
  rw [lg_entry_eq]
  generalize (lg_sl ([.ref h, .int (nI i)]) ++ List.replicate (2 - (lg_sl ([.ref h, .int (nI i)])).length) Slot.unset).toArray = ls at hl ⊢
  have hl : lv_has ls 2 [(0, .ref h), (1, .int (nI i))] := hl
  refine lv_aload_n hx hb dX2_sumAt_0 rfl (lv_at hl 0 rfl) ?_
  refine va_get (D := (dC, dI)) (ci := 2) (v := .int 1) (C := RX2) (T := TX2) (N := 14) hx hb hts (by decide +kernel) hown hK hP 0 rfl rfl 13 (by decide) (hts (.fieldLink RX2 140 "KeySumsModel" "isSummed" "Z") (by decide +kernel)) (fun _ h9 => h9) rfl dX2_sumAt_1 ?_
  refine lv_if_eq (tgt := 26) hx hb dX2_sumAt_4 (by decide) (fun hc => ?_) (fun hc => ?_)
  · skip
    exact absurd hc (by decide)
  · skip
    refine lv_iload_n hx hb dX2_sumAt_7 rfl (lv_at hl 1 rfl) ?_
    refine lv_if_lt (tgt := 26) hx hb dX2_sumAt_8 (by decide) (fun hc => ?_) (fun hc => ?_)
    · skip
      exact absurd hc (nI_pos (n := i) (by omega))
    · skip
      refine lv_iload_n hx hb dX2_sumAt_11 rfl (lv_at hl 1 rfl) ?_
      refine lv_bipush (v := 16) hx hb dX2_sumAt_12 (by decide) ?_
      refine lv_icmp_ge (tgt := 26) hx hb dX2_sumAt_14 (by decide) (fun hc => ?_) (fun hc => ?_)
      · skip
        exact absurd hc (nI_ge (a := i) (b := 16) h1 (by decide))
      · skip
        refine lv_aload_n hx hb dX2_sumAt_17 rfl (lv_at hl 0 rfl) ?_
        refine va_get (D := (dC, dI)) (ci := 2) (v := .ref ar) (C := RX2) (T := TX2) (N := 14) hx hb hts (by decide +kernel) hown hK hP 0 rfl rfl 12 (by decide) (hts (.fieldLink RX2 108 "KeySumsModel" "result" "[I") (by decide +kernel)) (fun _ h9 => h9) rfl dX2_sumAt_18 ?_
        refine lv_iload_n hx hb dX2_sumAt_21 rfl (lv_at hl 1 rfl) ?_
        refine kz_iald (j := i) hx hb hK hP 1 0 rfl rfl (h1) (by decide) dX2_sumAt_22 ?_
        refine lv_goto (tgt := 27) hx hb dX2_sumAt_23 (by decide) ?_
        exact W.iret (v := (rs i)) hx hb hr (fun t ht hW => ⟨(rs i), rfl, rfl, ht⟩) (fun q h => by cases h) dX2_sumAt_27
end
section
set_option maxHeartbeats 4000000 in
set_option maxRecDepth 100000 in
/-- sum -/
theorem r_sum_k (l : Launch) (dC : Nat → ClassId) (dI : Nat → Nat → Nat) (sz : Nat) (h ac au ab ae am ap ak al af an ar : Nat) (cJ : ClassId) (sz0 sm : Int32) (n : Nat) (bl fr fn fk rs f : Nat → Int32) (y : Int32) (h2 : n + 16 < 2 ^ 28) (hi : rf_inv f n bl fr) (hz : ¬ y = 0) (hf : ∀ j, j < 16 → f (n + j) &&& 255 = fk j &&& 255) : Met l yX2_sum wsX2_sum ({ frames := 3, cells := 0, slots := 0, locals := 90 }) (va_Pc [.ref h, .int y] (fun U => U.heap.size = sz ∧ va_P (dC, dI) vwCl [(h, .inr (2, [.ref ac, .ref au, .ref ab, .ref ae, .ref am, .ref ap, .int sz0, .ref ak, .ref al, .ref af, .ref an, .int (nI n), .ref ar, .int sm])), (ac, .inl (cJ, 64, .inl ks_k)), (au, .inl (cJ, 16, .inl ks_tt)), (ae, .inl (cJ, 4, .inl ks_tmI)), (am, .inl (cJ, 4, .inl ks_moI)), (al, .inl (cJ, 64, .inl bl)), (af, .inl (cJ, 4, .inl fr)), (an, .inl (cJ, 4, .inl fn)), (ak, .inl (cJ, 16, .inl fk)), (ar, .inl (cJ, 16, .inl rs)), (ab, .inl (cJ, 4, .inl ks_begI))] U.heap ∧ va_K (dC, dI) vwCl [(cJ, .int)] U ∧ va_D (fun _ => True) [(h, .inr (2, [.ref ac, .ref au, .ref ab, .ref ae, .ref am, .ref ap, .int sz0, .ref ak, .ref al, .ref af, .ref an, .int (nI n), .ref ar, .int sm])), (ac, .inl (cJ, 64, .inl ks_k)), (au, .inl (cJ, 16, .inl ks_tt)), (ae, .inl (cJ, 4, .inl ks_tmI)), (am, .inl (cJ, 4, .inl ks_moI)), (al, .inl (cJ, 64, .inl bl)), (af, .inl (cJ, 4, .inl fr)), (an, .inl (cJ, 4, .inl fn)), (ak, .inl (cJ, 16, .inl fk)), (ar, .inl (cJ, 16, .inl rs)), (ab, .inl (cJ, 4, .inl ks_begI))])) (va_Qi (fun (r : Int32) (u : (Nat → Int32) × (Nat → Int32) × (Nat → Int32) × (Nat → Int32)) => r = nI n ∧ (∀ j, j < 4 → u.2.1 j = ks_begI j) ∧ ∃ z : Nat → Int32, ks_4 z = ks_sum f (n + 16) ∧ ∀ j, j < 16 → u.2.2.2 j = (z (j / 4) >>> (nI (8 * (j % 4)) &&& 31)) &&& 255) (fun (u : (Nat → Int32) × (Nat → Int32) × (Nat → Int32) × (Nat → Int32)) t => kz_B dC dI [(cJ, .int)] (va_A [(h, .inr (2, [.ref ac, .ref au, .ref ab, .ref ae, .ref am, .ref ap, .int sz0, .ref ak, .ref al, .ref af, .ref an, .int (nI n), .ref ar, .int sm])), (ac, .inl (cJ, 64, .inl ks_k)), (au, .inl (cJ, 16, .inl ks_tt)), (ae, .inl (cJ, 4, .inl ks_tmI)), (am, .inl (cJ, 4, .inl ks_moI)), (al, .inl (cJ, 64, .inl bl)), (af, .inl (cJ, 4, .inl fr)), (an, .inl (cJ, 4, .inl fn)), (ak, .inl (cJ, 16, .inl fk)), (ar, .inl (cJ, 16, .inl rs)), (ab, .inl (cJ, 4, .inl ks_begI))] sz) [(h, .inr (2, [.ref ac, .ref au, .ref ab, .ref ae, .ref am, .ref ap, .int sz0, .ref ak, .ref al, .ref af, .ref an, .int (nI 0), .ref ar, .int 1])), (ac, .inl (cJ, 64, .inl ks_k)), (au, .inl (cJ, 16, .inl ks_tt)), (ae, .inl (cJ, 4, .inl ks_tmI)), (am, .inl (cJ, 4, .inl ks_moI)), (al, .inl (cJ, 64, .inl u.1)), (af, .inl (cJ, 4, .inl u.2.1)), (an, .inl (cJ, 4, .inl u.2.2.1)), (ak, .inl (cJ, 16, .inl fk)), (ar, .inl (cJ, 16, .inl u.2.2.2)), (ab, .inl (cJ, 4, .inl ks_begI))] t) (va_A [(h, .inr (2, [.ref ac, .ref au, .ref ab, .ref ae, .ref am, .ref ap, .int sz0, .ref ak, .ref al, .ref af, .ref an, .int (nI n), .ref ar, .int sm])), (ac, .inl (cJ, 64, .inl ks_k)), (au, .inl (cJ, 16, .inl ks_tt)), (ae, .inl (cJ, 4, .inl ks_tmI)), (am, .inl (cJ, 4, .inl ks_moI)), (al, .inl (cJ, 64, .inl bl)), (af, .inl (cJ, 4, .inl fr)), (an, .inl (cJ, 4, .inl fn)), (ak, .inl (cJ, 16, .inl fk)), (ar, .inl (cJ, 16, .inl rs)), (ab, .inl (cJ, 4, .inl ks_begI))] sz)) 0 0 (va_A [(h, .inr (2, [.ref ac, .ref au, .ref ab, .ref ae, .ref am, .ref ap, .int sz0, .ref ak, .ref al, .ref af, .ref an, .int (nI n), .ref ar, .int sm])), (ac, .inl (cJ, 64, .inl ks_k)), (au, .inl (cJ, 16, .inl ks_tt)), (ae, .inl (cJ, 4, .inl ks_tmI)), (am, .inl (cJ, 4, .inl ks_moI)), (al, .inl (cJ, 64, .inl bl)), (af, .inl (cJ, 4, .inl fr)), (an, .inl (cJ, 4, .inl fn)), (ak, .inl (cJ, 16, .inl fk)), (ar, .inl (cJ, 16, .inl rs)), (ab, .inl (cJ, 4, .inl ks_begI))] sz) := by
  refine Met.ofW (cc := cX2_sum) (maxL := 6) (ret := (some .int)) (by decide) rfl ?_
  intro p e s m args below meth c s₁ B hml hv
  obtain ⟨rfl, hsz, hP, hK, hD0⟩ := hv
  have hx := B.exec
  have hb := B.bytes
  have hr := B.returns
  have hts := atoms_spec (ws := wsX2_sum) B.pre
  have hown : s.vm.findClass RX2 = some m.cls := findClass_of_methodNamed B.named
  have hlocks := B.notSynchronized
  subst hsz
  have hD := hD0.self (sz := s.heap.size)
  generalize hAe : va_A [(h, .inr (2, [.ref ac, .ref au, .ref ab, .ref ae, .ref am, .ref ap, .int sz0, .ref ak, .ref al, .ref af, .ref an, .int (nI n), .ref ar, .int sm])), (ac, .inl (cJ, 64, .inl ks_k)), (au, .inl (cJ, 16, .inl ks_tt)), (ae, .inl (cJ, 4, .inl ks_tmI)), (am, .inl (cJ, 4, .inl ks_moI)), (al, .inl (cJ, 64, .inl bl)), (af, .inl (cJ, 4, .inl fr)), (an, .inl (cJ, 4, .inl fn)), (ak, .inl (cJ, 16, .inl fk)), (ar, .inl (cJ, 16, .inl rs)), (ab, .inl (cJ, 4, .inl ks_begI))] s.heap.size = A at hD  ⊢
  have hA : ∀ q : Nat, s.heap.size ≤ q → A q := fun q h => by rw [← hAe]; exact Or.inr h
  have hS : va_S A s.heap s.heap [] := va_S.rf
  have hP : va_P (dC, dI) vwCl [(h, .inr (2, [.ref ac, .ref au, .ref ab, .ref ae, .ref am, .ref ap, .int sz0, .ref ak, .ref al, .ref af, .ref an, .int (nI n), .ref ar, .int sm])), (ac, .inl (cJ, 64, .inl ks_k)), (au, .inl (cJ, 16, .inl ks_tt)), (ae, .inl (cJ, 4, .inl ks_tmI)), (am, .inl (cJ, 4, .inl ks_moI)), (al, .inl (cJ, 64, .inl bl)), (af, .inl (cJ, 4, .inl fr)), (an, .inl (cJ, 4, .inl fn)), (ak, .inl (cJ, 16, .inl fk)), (ar, .inl (cJ, 16, .inl rs)), (ab, .inl (cJ, 4, .inl ks_begI))] s.heap := hP
  have hl := lv_entry ([.ref h, .int y]) (n := 6) (Nat.le_of_ble_eq_true rfl)
  rw [lg_entry_eq]
  generalize (lg_sl ([.ref h, .int y]) ++ List.replicate (6 - (lg_sl ([.ref h, .int y])).length) Slot.unset).toArray = ls at hl ⊢
  have hl : lv_has ls 6 [(0, .ref h), (1, .int y)] := hl
  refine lv_aload_n hx hb dX2_sum_0 rfl (lv_at hl 0 rfl) ?_
  refine va_get (D := (dC, dI)) (ci := 2) (v := .int (nI n)) (C := RX2) (T := TX2) (N := 14) hx hb hts (by decide +kernel) hown hK hP 0 rfl rfl 11 (by decide) (hts (.fieldLink RX2 114 "KeySumsModel" "many" "I") (by decide +kernel)) (fun _ h9 => h9) rfl dX2_sum_1 ?_
  refine lv_istore_n (lv' := [(2, .int (nI n)), (0, .ref h), (1, .int y)]) hx hb dX2_sum_4 rfl hl (by decide) rfl (fun ls hl => ?_)
  refine lv_iconst (v := 0) hx hb dX2_sum_5 (by decide) ?_
  refine kz_top (y := nI 0) nI_0.symm ?_
  refine lv_istore_n (lv' := [(3, .int (nI 0)), (2, .int (nI n)), (0, .ref h), (1, .int y)]) hx hb dX2_sum_6 rfl hl (by decide) rfl (fun ls hl => ?_)
  refine kz_loop (σ := (Nat → Int32) × (Nat → Int32) × (Nat → Int32)) (fun i x ls H locs => rf_inv f (n + i) x.1 x.2.1 ∧ lv_has ls 6 [(3, .int (nI i)), (2, .int (nI n)), (0, .ref h), (1, .int y)] ∧ va_P (dC, dI) vwCl [(h, .inr (2, [.ref ac, .ref au, .ref ab, .ref ae, .ref am, .ref ap, .int sz0, .ref ak, .ref al, .ref af, .ref an, .int (nI (n + i)), .ref ar, .int sm])), (ac, .inl (cJ, 64, .inl ks_k)), (au, .inl (cJ, 16, .inl ks_tt)), (ae, .inl (cJ, 4, .inl ks_tmI)), (am, .inl (cJ, 4, .inl ks_moI)), (al, .inl (cJ, 64, .inl x.1)), (af, .inl (cJ, 4, .inl x.2.1)), (an, .inl (cJ, 4, .inl x.2.2)), (ak, .inl (cJ, 16, .inl fk)), (ar, .inl (cJ, 16, .inl rs)), (ab, .inl (cJ, 4, .inl ks_begI))] H ∧ va_D A [(h, .inr (2, [.ref ac, .ref au, .ref ab, .ref ae, .ref am, .ref ap, .int sz0, .ref ak, .ref al, .ref af, .ref an, .int (nI (n + i)), .ref ar, .int sm])), (ac, .inl (cJ, 64, .inl ks_k)), (au, .inl (cJ, 16, .inl ks_tt)), (ae, .inl (cJ, 4, .inl ks_tmI)), (am, .inl (cJ, 4, .inl ks_moI)), (al, .inl (cJ, 64, .inl x.1)), (af, .inl (cJ, 4, .inl x.2.1)), (an, .inl (cJ, 4, .inl x.2.2)), (ak, .inl (cJ, 16, .inl fk)), (ar, .inl (cJ, 16, .inl rs)), (ab, .inl (cJ, 4, .inl ks_begI))] ∧ va_S A s.heap H locs) 16 ?_ ?_ 0 (bl, fr, fn) ls _ _ (Nat.zero_le _) ⟨hi, lv_sub hl [0, 1, 2, 3] rfl, hP, hD, hS⟩
  · skip
    intro i x ls H locs hlt hI ih
    obtain ⟨hv, hl, hP, hD, hS⟩ := hI
    refine lv_iload_n hx hb dX2_sum_7 rfl (lv_at hl 0 rfl) ?_
    refine lv_bipush (v := 16) hx hb dX2_sum_8 (by decide) ?_
    refine lv_icmp_ge (tgt := 33) hx hb dX2_sum_10 (by decide) (fun hc => ?_) (fun hc => ?_)
    · skip
      exact absurd hc (nI_ge (a := i) (b := 16) hlt (by decide))
    · skip
      refine lv_iload_n hx hb dX2_sum_13 rfl (lv_at hl 3 rfl) ?_
      refine lv_if_eq (tgt := 33) hx hb dX2_sum_14 (by decide) (fun hc => ?_) (fun hc => ?_)
      · skip
        exact absurd hc hz
      · skip
        refine lv_aload_n hx hb dX2_sum_17 rfl (lv_at hl 2 rfl) ?_
        refine lv_aload_n hx hb dX2_sum_18 rfl (lv_at hl 2 rfl) ?_
        refine va_get (D := (dC, dI)) (ci := 2) (v := .ref ak) (C := RX2) (T := TX2) (N := 14) hx hb hts (by decide +kernel) hown hK hP 0 rfl rfl 7 (by decide) (hts (.fieldLink RX2 96 "KeySumsModel" "key" "[I") (by decide +kernel)) (fun _ h9 => h9) rfl dX2_sum_19 ?_
        refine lv_iload_n hx hb dX2_sum_22 rfl (lv_at hl 0 rfl) ?_
        refine kz_iald (j := i) hx hb hK hP 8 0 rfl rfl (hlt) (by decide) dX2_sum_23 ?_
        have hPc := hP.sub (ws' := [(h, .inr (2, [.ref ac, .ref au, .ref ab, .ref ae, .ref am, .ref ap, .int sz0, .ref ak, .ref al, .ref af, .ref an, .int (nI (n + i)), .ref ar, .int sm])), (ac, .inl (cJ, 64, .inl ks_k)), (au, .inl (cJ, 16, .inl ks_tt)), (ae, .inl (cJ, 4, .inl ks_tmI)), (am, .inl (cJ, 4, .inl ks_moI)), (al, .inl (cJ, 64, .inl x.1)), (af, .inl (cJ, 4, .inl x.2.1)), (an, .inl (cJ, 4, .inl x.2.2))]) [0, 1, 2, 3, 4, 5, 6, 7] rfl
        have hDc := hD.sub (ws' := [(h, .inr (2, [.ref ac, .ref au, .ref ab, .ref ae, .ref am, .ref ap, .int sz0, .ref ak, .ref al, .ref af, .ref an, .int (nI (n + i)), .ref ar, .int sm])), (ac, .inl (cJ, 64, .inl ks_k)), (au, .inl (cJ, 16, .inl ks_tt)), (ae, .inl (cJ, 4, .inl ks_tmI)), (am, .inl (cJ, 4, .inl ks_moI)), (al, .inl (cJ, 64, .inl x.1)), (af, .inl (cJ, 4, .inl x.2.1)), (an, .inl (cJ, 4, .inl x.2.2))]) [0, 1, 2, 3, 4, 5, 6, 7] (by decide) rfl
        have hKc := hK.sub (tys' := [(cJ, .int)]) [0] rfl
        have hFc := va_free (wc := [(h, .inr (2, [.ref ac, .ref au, .ref ab, .ref ae, .ref am, .ref ap, .int sz0, .ref ak, .ref al, .ref af, .ref an, .int (nI (n + i)), .ref ar, .int sm])), (ac, .inl (cJ, 64, .inl ks_k)), (au, .inl (cJ, 16, .inl ks_tt)), (ae, .inl (cJ, 4, .inl ks_tmI)), (am, .inl (cJ, 4, .inl ks_moI)), (al, .inl (cJ, 64, .inl x.1)), (af, .inl (cJ, 4, .inl x.2.1)), (an, .inl (cJ, 4, .inl x.2.2))]) hD hS hA [0, 1, 2, 3, 4, 5, 6, 7] rfl
        refine va_callv (va_runV (As := [.int (fk i)]) (rest := []) ⟨hx, hb, hml, hown, hts⟩ (r_come l dC dI H.size h ac au ab ae am ap ak al af an ar cJ sz0 sm (n + i) x.1 x.2.1 x.2.2 f (fk i) (by omega) hv (hf i hlt)) (cwV 1 hts gX2_sum_X2_come rfl rfl rfl (by decide +kernel) ⟨Nat.le_of_ble_eq_true rfl, Nat.le_of_ble_eq_true rfl⟩) ⟨fun a U g mk q => by obtain ⟨q0, q1, qP, qK, qD⟩ := q; exact ⟨q0, q1, qP, va_K.moved (u := U) (U := U.calling g mk a) (Vm.Alike.refl U.vm) qK, qD⟩, va_recv hKc hPc (ci := 2) (q0 := 0) rfl rfl, fun U hU hW => ⟨rfl, by rw [hU], by rw [hU]; exact hPc, va_K.moved hW.alike hKc, hDc.weaken (fun _ _ _ _ => trivial)⟩⟩ rfl rfl hl.1 rfl (lv_room (Nat.le_of_ble_eq_true rfl)) dX2_sum_24 ⟨Nat.zero_le _, Nat.zero_le _⟩) hS (fun q _ h => hFc q h) hFc (fun u t H1 locs ht hvm hw hB hz1 hk1 hS => ?_)
        obtain ⟨b2, f2, n2⟩ := u
        obtain ⟨hP1, hK1, hD1⟩ := hB
        rw [ht] at hP1
        have hK1 := va_K.moved hvm.symm hK1
        try dsimp only at hw
        obtain ⟨hP, hD⟩ := va_join (wr := [(ak, .inl (cJ, 16, .inl fk)), (ar, .inl (cJ, 16, .inl rs)), (ab, .inl (cJ, 4, .inl ks_begI))]) (w1 := [(h, .inr (2, [.ref ac, .ref au, .ref ab, .ref ae, .ref am, .ref ap, .int sz0, .ref ak, .ref al, .ref af, .ref an, .int (nI (n + i + 1)), .ref ar, .int sm])), (ac, .inl (cJ, 64, .inl ks_k)), (au, .inl (cJ, 16, .inl ks_tt)), (ae, .inl (cJ, 4, .inl ks_tmI)), (am, .inl (cJ, 4, .inl ks_moI)), (al, .inl (cJ, 64, .inl b2)), (af, .inl (cJ, 4, .inl f2)), (an, .inl (cJ, 4, .inl n2))]) hP hD [0, 1, 2, 3, 4, 5, 6, 7] [8, 9, 10] rfl rfl (by decide) (by decide) hk1 hFc hP1 hD1
        have hP := hP.sub (ws' := [(h, .inr (2, [.ref ac, .ref au, .ref ab, .ref ae, .ref am, .ref ap, .int sz0, .ref ak, .ref al, .ref af, .ref an, .int (nI (n + i + 1)), .ref ar, .int sm])), (ac, .inl (cJ, 64, .inl ks_k)), (au, .inl (cJ, 16, .inl ks_tt)), (ae, .inl (cJ, 4, .inl ks_tmI)), (am, .inl (cJ, 4, .inl ks_moI)), (al, .inl (cJ, 64, .inl b2)), (af, .inl (cJ, 4, .inl f2)), (an, .inl (cJ, 4, .inl n2)), (ak, .inl (cJ, 16, .inl fk)), (ar, .inl (cJ, 16, .inl rs)), (ab, .inl (cJ, 4, .inl ks_begI))]) [3, 4, 5, 6, 7, 8, 9, 10, 0, 1, 2] rfl
        have hD := hD.sub (ws' := [(h, .inr (2, [.ref ac, .ref au, .ref ab, .ref ae, .ref am, .ref ap, .int sz0, .ref ak, .ref al, .ref af, .ref an, .int (nI (n + i + 1)), .ref ar, .int sm])), (ac, .inl (cJ, 64, .inl ks_k)), (au, .inl (cJ, 16, .inl ks_tt)), (ae, .inl (cJ, 4, .inl ks_tmI)), (am, .inl (cJ, 4, .inl ks_moI)), (al, .inl (cJ, 64, .inl b2)), (af, .inl (cJ, 4, .inl f2)), (an, .inl (cJ, 4, .inl n2)), (ak, .inl (cJ, 16, .inl fk)), (ar, .inl (cJ, 16, .inl rs)), (ab, .inl (cJ, 4, .inl ks_begI))]) [3, 4, 5, 6, 7, 8, 9, 10, 0, 1, 2] (by decide) rfl
        generalize H1 = H at hP hS ⊢
        have hP : va_P (dC, dI) vwCl [(h, .inr (2, [.ref ac, .ref au, .ref ab, .ref ae, .ref am, .ref ap, .int sz0, .ref ak, .ref al, .ref af, .ref an, .int (nI (n + i + 1)), .ref ar, .int sm])), (ac, .inl (cJ, 64, .inl ks_k)), (au, .inl (cJ, 16, .inl ks_tt)), (ae, .inl (cJ, 4, .inl ks_tmI)), (am, .inl (cJ, 4, .inl ks_moI)), (al, .inl (cJ, 64, .inl b2)), (af, .inl (cJ, 4, .inl f2)), (an, .inl (cJ, 4, .inl n2)), (ak, .inl (cJ, 16, .inl fk)), (ar, .inl (cJ, 16, .inl rs)), (ab, .inl (cJ, 4, .inl ks_begI))] H := hP
        have hD : va_D A [(h, .inr (2, [.ref ac, .ref au, .ref ab, .ref ae, .ref am, .ref ap, .int sz0, .ref ak, .ref al, .ref af, .ref an, .int (nI (n + i + 1)), .ref ar, .int sm])), (ac, .inl (cJ, 64, .inl ks_k)), (au, .inl (cJ, 16, .inl ks_tt)), (ae, .inl (cJ, 4, .inl ks_tmI)), (am, .inl (cJ, 4, .inl ks_moI)), (al, .inl (cJ, 64, .inl b2)), (af, .inl (cJ, 4, .inl f2)), (an, .inl (cJ, 4, .inl n2)), (ak, .inl (cJ, 16, .inl fk)), (ar, .inl (cJ, 16, .inl rs)), (ab, .inl (cJ, 4, .inl ks_begI))] := hD
        refine lv_iinc (v := nI (i + 1)) (lv' := [(3, .int (nI (i + 1))), (2, .int (nI n)), (0, .ref h), (1, .int y)]) hx hb dX2_sum_27 hl (k := 0) rfl (nI_1 i) (by decide) rfl (fun ls hl => ?_)
        refine lv_goto (tgt := 7) hx hb dX2_sum_30 (by decide) ?_
        exact ih (b2, f2, n2) ls H locs ⟨hw, lv_sub hl [0, 1, 2, 3] rfl, hP, hD, hS⟩
  · skip
    intro x ls H locs hI
    obtain ⟨hv, hl, hP, hD, hS⟩ := hI
    refine lv_iload_n hx hb dX2_sum_7 rfl (lv_at hl 0 rfl) ?_
    refine lv_bipush (v := 16) hx hb dX2_sum_8 (by decide) ?_
    refine lv_icmp_ge (tgt := 33) hx hb dX2_sum_10 (by decide) (fun hc => ?_) (fun hc => ?_)
    · skip
      have hi : rf_inv (ks_pad f (n + 16)) (n + 16) x.1 x.2.1 := rf_inv_8 hv (fun j hj => by rw [show ks_pad f (n + 16) j = f j from if_pos hj])
      have he0 : (n + 16) + 1 ≤ ks_end (n + 16) := by unfold ks_end; omega
      have he1 : ks_end (n + 16) ≤ (n + 16) + 64 := by unfold ks_end; omega
      refine lv_ldc2 (v := (8)) hx hb hown (hts (.constantLong RX2 138 (8)) (by decide +kernel)) dX2_sum_33 ?_
      refine lv_aload_n hx hb dX2_sum_36 rfl (lv_at hl 2 rfl) ?_
      refine va_get (D := (dC, dI)) (ci := 2) (v := .int (nI (n + 16))) (C := RX2) (T := TX2) (N := 14) hx hb hts (by decide +kernel) hown hK hP 0 rfl rfl 11 (by decide) (hts (.fieldLink RX2 114 "KeySumsModel" "many" "I") (by decide +kernel)) (fun _ h9 => h9) rfl dX2_sum_37 ?_
      refine lv_i2l (v := lN (n + 16)) hx hb dX2_sum_40 (nI_l (by omega)) ?_
      refine lv_lmul hx hb dX2_sum_41 ?_
      refine kz_topl (y := lN (8 * (n + 16))) (lN_mul 8 (n + 16)) ?_
      refine lv_lstore_n (lv' := [(3, .long (lN (8 * (n + 16)))), (2, .int (nI n)), (0, .ref h), (1, .int y)]) hx hb dX2_sum_42 rfl hl (by decide) rfl (fun ls hl => ?_)
      refine lv_aload_n hx hb dX2_sum_43 rfl (lv_at hl 2 rfl) ?_
      refine lv_sipush (v := 128) hx hb dX2_sum_44 (by decide) ?_
      have hPc := hP.sub (ws' := [(h, .inr (2, [.ref ac, .ref au, .ref ab, .ref ae, .ref am, .ref ap, .int sz0, .ref ak, .ref al, .ref af, .ref an, .int (nI (n + 16)), .ref ar, .int sm])), (ac, .inl (cJ, 64, .inl ks_k)), (au, .inl (cJ, 16, .inl ks_tt)), (ae, .inl (cJ, 4, .inl ks_tmI)), (am, .inl (cJ, 4, .inl ks_moI)), (al, .inl (cJ, 64, .inl x.1)), (af, .inl (cJ, 4, .inl x.2.1)), (an, .inl (cJ, 4, .inl x.2.2))]) [0, 1, 2, 3, 4, 5, 6, 7] rfl
      have hDc := hD.sub (ws' := [(h, .inr (2, [.ref ac, .ref au, .ref ab, .ref ae, .ref am, .ref ap, .int sz0, .ref ak, .ref al, .ref af, .ref an, .int (nI (n + 16)), .ref ar, .int sm])), (ac, .inl (cJ, 64, .inl ks_k)), (au, .inl (cJ, 16, .inl ks_tt)), (ae, .inl (cJ, 4, .inl ks_tmI)), (am, .inl (cJ, 4, .inl ks_moI)), (al, .inl (cJ, 64, .inl x.1)), (af, .inl (cJ, 4, .inl x.2.1)), (an, .inl (cJ, 4, .inl x.2.2))]) [0, 1, 2, 3, 4, 5, 6, 7] (by decide) rfl
      have hKc := hK.sub (tys' := [(cJ, .int)]) [0] rfl
      have hFc := va_free (wc := [(h, .inr (2, [.ref ac, .ref au, .ref ab, .ref ae, .ref am, .ref ap, .int sz0, .ref ak, .ref al, .ref af, .ref an, .int (nI (n + 16)), .ref ar, .int sm])), (ac, .inl (cJ, 64, .inl ks_k)), (au, .inl (cJ, 16, .inl ks_tt)), (ae, .inl (cJ, 4, .inl ks_tmI)), (am, .inl (cJ, 4, .inl ks_moI)), (al, .inl (cJ, 64, .inl x.1)), (af, .inl (cJ, 4, .inl x.2.1)), (an, .inl (cJ, 4, .inl x.2.2))]) hD hS hA [0, 1, 2, 3, 4, 5, 6, 7] rfl
      refine va_callv (va_runV (As := [.int 128]) (rest := []) ⟨hx, hb, hml, hown, hts⟩ (r_come l dC dI H.size h ac au ab ae am ap ak al af an ar cJ sz0 sm (n + 16) x.1 x.2.1 x.2.2 (ks_pad f (n + 16)) 128 (by omega) hi (by rw [show ks_pad f (n + 16) (n + 16) = 128 by unfold ks_pad; rw [if_neg (Nat.lt_irrefl _), if_pos rfl]])) (cwV 1 hts gX2_sum_X2_come rfl rfl rfl (by decide +kernel) ⟨Nat.le_of_ble_eq_true rfl, Nat.le_of_ble_eq_true rfl⟩) ⟨fun a U g mk q => by obtain ⟨q0, q1, qP, qK, qD⟩ := q; exact ⟨q0, q1, qP, va_K.moved (u := U) (U := U.calling g mk a) (Vm.Alike.refl U.vm) qK, qD⟩, va_recv hKc hPc (ci := 2) (q0 := 0) rfl rfl, fun U hU hW => ⟨rfl, by rw [hU], by rw [hU]; exact hPc, va_K.moved hW.alike hKc, hDc.weaken (fun _ _ _ _ => trivial)⟩⟩ rfl rfl hl.1 rfl (lv_room (Nat.le_of_ble_eq_true rfl)) dX2_sum_47 ⟨Nat.zero_le _, Nat.zero_le _⟩) hS (fun q _ h => hFc q h) hFc (fun u t H1 locs ht hvm hw hB hz1 hk1 hS => ?_)
      obtain ⟨b2, f2, n2⟩ := u
      obtain ⟨hP1, hK1, hD1⟩ := hB
      rw [ht] at hP1
      have hK1 := va_K.moved hvm.symm hK1
      try dsimp only at hw
      obtain ⟨hP, hD⟩ := va_join (wr := [(ak, .inl (cJ, 16, .inl fk)), (ar, .inl (cJ, 16, .inl rs)), (ab, .inl (cJ, 4, .inl ks_begI))]) (w1 := [(h, .inr (2, [.ref ac, .ref au, .ref ab, .ref ae, .ref am, .ref ap, .int sz0, .ref ak, .ref al, .ref af, .ref an, .int (nI ((n + 16) + 1)), .ref ar, .int sm])), (ac, .inl (cJ, 64, .inl ks_k)), (au, .inl (cJ, 16, .inl ks_tt)), (ae, .inl (cJ, 4, .inl ks_tmI)), (am, .inl (cJ, 4, .inl ks_moI)), (al, .inl (cJ, 64, .inl b2)), (af, .inl (cJ, 4, .inl f2)), (an, .inl (cJ, 4, .inl n2))]) hP hD [0, 1, 2, 3, 4, 5, 6, 7] [8, 9, 10] rfl rfl (by decide) (by decide) hk1 hFc hP1 hD1
      have hP := hP.sub (ws' := [(h, .inr (2, [.ref ac, .ref au, .ref ab, .ref ae, .ref am, .ref ap, .int sz0, .ref ak, .ref al, .ref af, .ref an, .int (nI ((n + 16) + 1)), .ref ar, .int sm])), (ac, .inl (cJ, 64, .inl ks_k)), (au, .inl (cJ, 16, .inl ks_tt)), (ae, .inl (cJ, 4, .inl ks_tmI)), (am, .inl (cJ, 4, .inl ks_moI)), (al, .inl (cJ, 64, .inl b2)), (af, .inl (cJ, 4, .inl f2)), (an, .inl (cJ, 4, .inl n2)), (ak, .inl (cJ, 16, .inl fk)), (ar, .inl (cJ, 16, .inl rs)), (ab, .inl (cJ, 4, .inl ks_begI))]) [3, 4, 5, 6, 7, 8, 9, 10, 0, 1, 2] rfl
      have hD := hD.sub (ws' := [(h, .inr (2, [.ref ac, .ref au, .ref ab, .ref ae, .ref am, .ref ap, .int sz0, .ref ak, .ref al, .ref af, .ref an, .int (nI ((n + 16) + 1)), .ref ar, .int sm])), (ac, .inl (cJ, 64, .inl ks_k)), (au, .inl (cJ, 16, .inl ks_tt)), (ae, .inl (cJ, 4, .inl ks_tmI)), (am, .inl (cJ, 4, .inl ks_moI)), (al, .inl (cJ, 64, .inl b2)), (af, .inl (cJ, 4, .inl f2)), (an, .inl (cJ, 4, .inl n2)), (ak, .inl (cJ, 16, .inl fk)), (ar, .inl (cJ, 16, .inl rs)), (ab, .inl (cJ, 4, .inl ks_begI))]) [3, 4, 5, 6, 7, 8, 9, 10, 0, 1, 2] (by decide) rfl
      generalize H1 = H at hP hS ⊢
      have hP : va_P (dC, dI) vwCl [(h, .inr (2, [.ref ac, .ref au, .ref ab, .ref ae, .ref am, .ref ap, .int sz0, .ref ak, .ref al, .ref af, .ref an, .int (nI ((n + 16) + 1)), .ref ar, .int sm])), (ac, .inl (cJ, 64, .inl ks_k)), (au, .inl (cJ, 16, .inl ks_tt)), (ae, .inl (cJ, 4, .inl ks_tmI)), (am, .inl (cJ, 4, .inl ks_moI)), (al, .inl (cJ, 64, .inl b2)), (af, .inl (cJ, 4, .inl f2)), (an, .inl (cJ, 4, .inl n2)), (ak, .inl (cJ, 16, .inl fk)), (ar, .inl (cJ, 16, .inl rs)), (ab, .inl (cJ, 4, .inl ks_begI))] H := hP
      have hD : va_D A [(h, .inr (2, [.ref ac, .ref au, .ref ab, .ref ae, .ref am, .ref ap, .int sz0, .ref ak, .ref al, .ref af, .ref an, .int (nI ((n + 16) + 1)), .ref ar, .int sm])), (ac, .inl (cJ, 64, .inl ks_k)), (au, .inl (cJ, 16, .inl ks_tt)), (ae, .inl (cJ, 4, .inl ks_tmI)), (am, .inl (cJ, 4, .inl ks_moI)), (al, .inl (cJ, 64, .inl b2)), (af, .inl (cJ, 4, .inl f2)), (an, .inl (cJ, 4, .inl n2)), (ak, .inl (cJ, 16, .inl fk)), (ar, .inl (cJ, 16, .inl rs)), (ab, .inl (cJ, 4, .inl ks_begI))] := hD
      refine kz_loop (σ := (Nat → Int32) × (Nat → Int32) × (Nat → Int32)) (fun i x ls H locs => rf_inv (ks_pad f (n + 16)) ((n + 16) + 1 + i) x.1 x.2.1 ∧ lv_has ls 6 [(3, .long (lN (8 * (n + 16)))), (2, .int (nI n)), (0, .ref h)] ∧ va_P (dC, dI) vwCl [(h, .inr (2, [.ref ac, .ref au, .ref ab, .ref ae, .ref am, .ref ap, .int sz0, .ref ak, .ref al, .ref af, .ref an, .int (nI ((n + 16) + 1 + i)), .ref ar, .int sm])), (ac, .inl (cJ, 64, .inl ks_k)), (au, .inl (cJ, 16, .inl ks_tt)), (ae, .inl (cJ, 4, .inl ks_tmI)), (am, .inl (cJ, 4, .inl ks_moI)), (al, .inl (cJ, 64, .inl x.1)), (af, .inl (cJ, 4, .inl x.2.1)), (an, .inl (cJ, 4, .inl x.2.2)), (ak, .inl (cJ, 16, .inl fk)), (ar, .inl (cJ, 16, .inl rs)), (ab, .inl (cJ, 4, .inl ks_begI))] H ∧ va_D A [(h, .inr (2, [.ref ac, .ref au, .ref ab, .ref ae, .ref am, .ref ap, .int sz0, .ref ak, .ref al, .ref af, .ref an, .int (nI ((n + 16) + 1 + i)), .ref ar, .int sm])), (ac, .inl (cJ, 64, .inl ks_k)), (au, .inl (cJ, 16, .inl ks_tt)), (ae, .inl (cJ, 4, .inl ks_tmI)), (am, .inl (cJ, 4, .inl ks_moI)), (al, .inl (cJ, 64, .inl x.1)), (af, .inl (cJ, 4, .inl x.2.1)), (an, .inl (cJ, 4, .inl x.2.2)), (ak, .inl (cJ, 16, .inl fk)), (ar, .inl (cJ, 16, .inl rs)), (ab, .inl (cJ, 4, .inl ks_begI))] ∧ va_S A s.heap H locs) (ks_end (n + 16) - ((n + 16) + 1)) ?_ ?_ 0 (b2, f2, n2) ls _ _ (Nat.zero_le _) ⟨hw, lv_sub hl [0, 1, 2] rfl, hP, hD, hS⟩
      · skip
        intro i x ls H locs hlt hI ih
        obtain ⟨hv, hl, hP, hD, hS⟩ := hI
        refine lv_aload_n hx hb dX2_sum_50 rfl (lv_at hl 2 rfl) ?_
        refine va_get (D := (dC, dI)) (ci := 2) (v := .int (nI ((n + 16) + 1 + i))) (C := RX2) (T := TX2) (N := 14) hx hb hts (by decide +kernel) hown hK hP 0 rfl rfl 11 (by decide) (hts (.fieldLink RX2 114 "KeySumsModel" "many" "I") (by decide +kernel)) (fun _ h9 => h9) rfl dX2_sum_51 ?_
        refine lv_bipush (v := 64) hx hb dX2_sum_54 (by decide) ?_
        refine lv_irem hx hb dX2_sum_56 (by decide) ?_
        refine kz_top (y := nI (((n + 16) + 1 + i) % 64)) (pk_rem (d := 64) (by omega) (by decide) (by decide)) ?_
        refine lv_bipush (v := 56) hx hb dX2_sum_57 (by decide) ?_
        refine lv_icmp_eq (tgt := 70) hx hb dX2_sum_59 (by decide) (fun hc => ?_) (fun hc => ?_)
        · skip
          exact absurd ((nI_eq (a := ((n + 16) + 1 + i) % 64) (b := 56) (by omega) (by decide)).mp hc) (by unfold ks_end at hlt; omega)
        · skip
          refine lv_aload_n hx hb dX2_sum_62 rfl (lv_at hl 2 rfl) ?_
          refine lv_iconst (v := 0) hx hb dX2_sum_63 (by decide) ?_
          have hPc := hP.sub (ws' := [(h, .inr (2, [.ref ac, .ref au, .ref ab, .ref ae, .ref am, .ref ap, .int sz0, .ref ak, .ref al, .ref af, .ref an, .int (nI ((n + 16) + 1 + i)), .ref ar, .int sm])), (ac, .inl (cJ, 64, .inl ks_k)), (au, .inl (cJ, 16, .inl ks_tt)), (ae, .inl (cJ, 4, .inl ks_tmI)), (am, .inl (cJ, 4, .inl ks_moI)), (al, .inl (cJ, 64, .inl x.1)), (af, .inl (cJ, 4, .inl x.2.1)), (an, .inl (cJ, 4, .inl x.2.2))]) [0, 1, 2, 3, 4, 5, 6, 7] rfl
          have hDc := hD.sub (ws' := [(h, .inr (2, [.ref ac, .ref au, .ref ab, .ref ae, .ref am, .ref ap, .int sz0, .ref ak, .ref al, .ref af, .ref an, .int (nI ((n + 16) + 1 + i)), .ref ar, .int sm])), (ac, .inl (cJ, 64, .inl ks_k)), (au, .inl (cJ, 16, .inl ks_tt)), (ae, .inl (cJ, 4, .inl ks_tmI)), (am, .inl (cJ, 4, .inl ks_moI)), (al, .inl (cJ, 64, .inl x.1)), (af, .inl (cJ, 4, .inl x.2.1)), (an, .inl (cJ, 4, .inl x.2.2))]) [0, 1, 2, 3, 4, 5, 6, 7] (by decide) rfl
          have hKc := hK.sub (tys' := [(cJ, .int)]) [0] rfl
          have hFc := va_free (wc := [(h, .inr (2, [.ref ac, .ref au, .ref ab, .ref ae, .ref am, .ref ap, .int sz0, .ref ak, .ref al, .ref af, .ref an, .int (nI ((n + 16) + 1 + i)), .ref ar, .int sm])), (ac, .inl (cJ, 64, .inl ks_k)), (au, .inl (cJ, 16, .inl ks_tt)), (ae, .inl (cJ, 4, .inl ks_tmI)), (am, .inl (cJ, 4, .inl ks_moI)), (al, .inl (cJ, 64, .inl x.1)), (af, .inl (cJ, 4, .inl x.2.1)), (an, .inl (cJ, 4, .inl x.2.2))]) hD hS hA [0, 1, 2, 3, 4, 5, 6, 7] rfl
          refine va_callv (va_runV (As := [.int 0]) (rest := []) ⟨hx, hb, hml, hown, hts⟩ (r_come l dC dI H.size h ac au ab ae am ap ak al af an ar cJ sz0 sm ((n + 16) + 1 + i) x.1 x.2.1 x.2.2 (ks_pad f (n + 16)) 0 (by omega) hv (by rw [show ks_pad f (n + 16) ((n + 16) + 1 + i) = 0 by unfold ks_pad; rw [if_neg (by omega), if_neg (by omega), if_pos (by omega)]])) (cwV 1 hts gX2_sum_X2_come rfl rfl rfl (by decide +kernel) ⟨Nat.le_of_ble_eq_true rfl, Nat.le_of_ble_eq_true rfl⟩) ⟨fun a U g mk q => by obtain ⟨q0, q1, qP, qK, qD⟩ := q; exact ⟨q0, q1, qP, va_K.moved (u := U) (U := U.calling g mk a) (Vm.Alike.refl U.vm) qK, qD⟩, va_recv hKc hPc (ci := 2) (q0 := 0) rfl rfl, fun U hU hW => ⟨rfl, by rw [hU], by rw [hU]; exact hPc, va_K.moved hW.alike hKc, hDc.weaken (fun _ _ _ _ => trivial)⟩⟩ rfl rfl hl.1 rfl (lv_room (Nat.le_of_ble_eq_true rfl)) dX2_sum_64 ⟨Nat.zero_le _, Nat.zero_le _⟩) hS (fun q _ h => hFc q h) hFc (fun u t H1 locs ht hvm hw hB hz1 hk1 hS => ?_)
          obtain ⟨b2, f2, n2⟩ := u
          obtain ⟨hP1, hK1, hD1⟩ := hB
          rw [ht] at hP1
          have hK1 := va_K.moved hvm.symm hK1
          try dsimp only at hw
          obtain ⟨hP, hD⟩ := va_join (wr := [(ak, .inl (cJ, 16, .inl fk)), (ar, .inl (cJ, 16, .inl rs)), (ab, .inl (cJ, 4, .inl ks_begI))]) (w1 := [(h, .inr (2, [.ref ac, .ref au, .ref ab, .ref ae, .ref am, .ref ap, .int sz0, .ref ak, .ref al, .ref af, .ref an, .int (nI ((n + 16) + 1 + i + 1)), .ref ar, .int sm])), (ac, .inl (cJ, 64, .inl ks_k)), (au, .inl (cJ, 16, .inl ks_tt)), (ae, .inl (cJ, 4, .inl ks_tmI)), (am, .inl (cJ, 4, .inl ks_moI)), (al, .inl (cJ, 64, .inl b2)), (af, .inl (cJ, 4, .inl f2)), (an, .inl (cJ, 4, .inl n2))]) hP hD [0, 1, 2, 3, 4, 5, 6, 7] [8, 9, 10] rfl rfl (by decide) (by decide) hk1 hFc hP1 hD1
          have hP := hP.sub (ws' := [(h, .inr (2, [.ref ac, .ref au, .ref ab, .ref ae, .ref am, .ref ap, .int sz0, .ref ak, .ref al, .ref af, .ref an, .int (nI ((n + 16) + 1 + i + 1)), .ref ar, .int sm])), (ac, .inl (cJ, 64, .inl ks_k)), (au, .inl (cJ, 16, .inl ks_tt)), (ae, .inl (cJ, 4, .inl ks_tmI)), (am, .inl (cJ, 4, .inl ks_moI)), (al, .inl (cJ, 64, .inl b2)), (af, .inl (cJ, 4, .inl f2)), (an, .inl (cJ, 4, .inl n2)), (ak, .inl (cJ, 16, .inl fk)), (ar, .inl (cJ, 16, .inl rs)), (ab, .inl (cJ, 4, .inl ks_begI))]) [3, 4, 5, 6, 7, 8, 9, 10, 0, 1, 2] rfl
          have hD := hD.sub (ws' := [(h, .inr (2, [.ref ac, .ref au, .ref ab, .ref ae, .ref am, .ref ap, .int sz0, .ref ak, .ref al, .ref af, .ref an, .int (nI ((n + 16) + 1 + i + 1)), .ref ar, .int sm])), (ac, .inl (cJ, 64, .inl ks_k)), (au, .inl (cJ, 16, .inl ks_tt)), (ae, .inl (cJ, 4, .inl ks_tmI)), (am, .inl (cJ, 4, .inl ks_moI)), (al, .inl (cJ, 64, .inl b2)), (af, .inl (cJ, 4, .inl f2)), (an, .inl (cJ, 4, .inl n2)), (ak, .inl (cJ, 16, .inl fk)), (ar, .inl (cJ, 16, .inl rs)), (ab, .inl (cJ, 4, .inl ks_begI))]) [3, 4, 5, 6, 7, 8, 9, 10, 0, 1, 2] (by decide) rfl
          generalize H1 = H at hP hS ⊢
          have hP : va_P (dC, dI) vwCl [(h, .inr (2, [.ref ac, .ref au, .ref ab, .ref ae, .ref am, .ref ap, .int sz0, .ref ak, .ref al, .ref af, .ref an, .int (nI ((n + 16) + 1 + i + 1)), .ref ar, .int sm])), (ac, .inl (cJ, 64, .inl ks_k)), (au, .inl (cJ, 16, .inl ks_tt)), (ae, .inl (cJ, 4, .inl ks_tmI)), (am, .inl (cJ, 4, .inl ks_moI)), (al, .inl (cJ, 64, .inl b2)), (af, .inl (cJ, 4, .inl f2)), (an, .inl (cJ, 4, .inl n2)), (ak, .inl (cJ, 16, .inl fk)), (ar, .inl (cJ, 16, .inl rs)), (ab, .inl (cJ, 4, .inl ks_begI))] H := hP
          have hD : va_D A [(h, .inr (2, [.ref ac, .ref au, .ref ab, .ref ae, .ref am, .ref ap, .int sz0, .ref ak, .ref al, .ref af, .ref an, .int (nI ((n + 16) + 1 + i + 1)), .ref ar, .int sm])), (ac, .inl (cJ, 64, .inl ks_k)), (au, .inl (cJ, 16, .inl ks_tt)), (ae, .inl (cJ, 4, .inl ks_tmI)), (am, .inl (cJ, 4, .inl ks_moI)), (al, .inl (cJ, 64, .inl b2)), (af, .inl (cJ, 4, .inl f2)), (an, .inl (cJ, 4, .inl n2)), (ak, .inl (cJ, 16, .inl fk)), (ar, .inl (cJ, 16, .inl rs)), (ab, .inl (cJ, 4, .inl ks_begI))] := hD
          refine lv_goto (tgt := 50) hx hb dX2_sum_67 (by decide) ?_
          exact ih (b2, f2, n2) ls H locs ⟨hw, lv_sub hl [0, 1, 2] rfl, hP, hD, hS⟩
      · skip
        intro x ls H locs hI
        obtain ⟨hv, hl, hP, hD, hS⟩ := hI
        rw [show (n + 16) + 1 + (ks_end (n + 16) - ((n + 16) + 1)) = ks_end (n + 16) by omega] at hv hP hD
        refine lv_aload_n hx hb dX2_sum_50 rfl (lv_at hl 2 rfl) ?_
        refine va_get (D := (dC, dI)) (ci := 2) (v := .int (nI (ks_end (n + 16)))) (C := RX2) (T := TX2) (N := 14) hx hb hts (by decide +kernel) hown hK hP 0 rfl rfl 11 (by decide) (hts (.fieldLink RX2 114 "KeySumsModel" "many" "I") (by decide +kernel)) (fun _ h9 => h9) rfl dX2_sum_51 ?_
        refine lv_bipush (v := 64) hx hb dX2_sum_54 (by decide) ?_
        refine lv_irem hx hb dX2_sum_56 (by decide) ?_
        refine kz_top (y := nI (ks_end (n + 16) % 64)) (pk_rem (d := 64) (by omega) (by decide) (by decide)) ?_
        refine lv_bipush (v := 56) hx hb dX2_sum_57 (by decide) ?_
        refine lv_icmp_eq (tgt := 70) hx hb dX2_sum_59 (by decide) (fun hc => ?_) (fun hc => ?_)
        · skip
          refine lv_iconst (v := 0) hx hb dX2_sum_70 (by decide) ?_
          refine kz_top (y := nI 0) nI_0.symm ?_
          refine lv_istore (lv' := [(5, .int (nI 0)), (3, .long (lN (8 * (n + 16)))), (2, .int (nI n)), (0, .ref h)]) hx hb dX2_sum_71 hl (by decide) rfl (fun ls hl => ?_)
          refine kz_loop (σ := (Nat → Int32) × (Nat → Int32) × (Nat → Int32)) (fun i x ls H locs => rf_inv (ks_pad f (n + 16)) (ks_end (n + 16) + i) x.1 x.2.1 ∧ lv_has ls 6 [(5, .int (nI i)), (3, .long (lN (8 * (n + 16)))), (2, .int (nI n)), (0, .ref h)] ∧ va_P (dC, dI) vwCl [(h, .inr (2, [.ref ac, .ref au, .ref ab, .ref ae, .ref am, .ref ap, .int sz0, .ref ak, .ref al, .ref af, .ref an, .int (nI (ks_end (n + 16) + i)), .ref ar, .int sm])), (ac, .inl (cJ, 64, .inl ks_k)), (au, .inl (cJ, 16, .inl ks_tt)), (ae, .inl (cJ, 4, .inl ks_tmI)), (am, .inl (cJ, 4, .inl ks_moI)), (al, .inl (cJ, 64, .inl x.1)), (af, .inl (cJ, 4, .inl x.2.1)), (an, .inl (cJ, 4, .inl x.2.2)), (ak, .inl (cJ, 16, .inl fk)), (ar, .inl (cJ, 16, .inl rs)), (ab, .inl (cJ, 4, .inl ks_begI))] H ∧ va_D A [(h, .inr (2, [.ref ac, .ref au, .ref ab, .ref ae, .ref am, .ref ap, .int sz0, .ref ak, .ref al, .ref af, .ref an, .int (nI (ks_end (n + 16) + i)), .ref ar, .int sm])), (ac, .inl (cJ, 64, .inl ks_k)), (au, .inl (cJ, 16, .inl ks_tt)), (ae, .inl (cJ, 4, .inl ks_tmI)), (am, .inl (cJ, 4, .inl ks_moI)), (al, .inl (cJ, 64, .inl x.1)), (af, .inl (cJ, 4, .inl x.2.1)), (an, .inl (cJ, 4, .inl x.2.2)), (ak, .inl (cJ, 16, .inl fk)), (ar, .inl (cJ, 16, .inl rs)), (ab, .inl (cJ, 4, .inl ks_begI))] ∧ va_S A s.heap H locs) 8 ?_ ?_ 0 x ls _ _ (Nat.zero_le _) ⟨hv, lv_sub hl [0, 1, 2, 3] rfl, hP, hD, hS⟩
          · skip
            intro i x ls H locs hlt hI ih
            obtain ⟨hv, hl, hP, hD, hS⟩ := hI
            refine lv_iload hx hb dX2_sum_73 (lv_at hl 0 rfl) ?_
            refine lv_bipush (v := 8) hx hb dX2_sum_75 (by decide) ?_
            refine lv_icmp_ge (tgt := 102) hx hb dX2_sum_77 (by decide) (fun hc => ?_) (fun hc => ?_)
            · skip
              exact absurd hc (nI_ge (a := i) (b := 8) hlt (by decide))
            · skip
              refine lv_aload_n hx hb dX2_sum_80 rfl (lv_at hl 3 rfl) ?_
              refine lv_lload_n hx hb dX2_sum_81 rfl (lv_at hl 1 rfl) ?_
              refine lv_bipush (v := 8) hx hb dX2_sum_82 (by decide) ?_
              refine lv_iload hx hb dX2_sum_84 (lv_at hl 0 rfl) ?_
              refine lv_imul hx hb dX2_sum_86 ?_
              refine kz_top (y := nI (8 * i)) (pk_mul 8 i) ?_
              refine lv_lshr (v := ks_ssl (lN (8 * (n + 16))) (nI (8 * i))) hx hb dX2_sum_87 rfl ?_
              refine lv_l2i (v := (ks_ssl (lN (8 * (n + 16))) (nI (8 * i))).toInt32) hx hb dX2_sum_88 rfl ?_
              refine lv_sipush (v := 255) hx hb dX2_sum_89 (by decide) ?_
              refine lv_iand hx hb dX2_sum_92 ?_
              have hPc := hP.sub (ws' := [(h, .inr (2, [.ref ac, .ref au, .ref ab, .ref ae, .ref am, .ref ap, .int sz0, .ref ak, .ref al, .ref af, .ref an, .int (nI (ks_end (n + 16) + i)), .ref ar, .int sm])), (ac, .inl (cJ, 64, .inl ks_k)), (au, .inl (cJ, 16, .inl ks_tt)), (ae, .inl (cJ, 4, .inl ks_tmI)), (am, .inl (cJ, 4, .inl ks_moI)), (al, .inl (cJ, 64, .inl x.1)), (af, .inl (cJ, 4, .inl x.2.1)), (an, .inl (cJ, 4, .inl x.2.2))]) [0, 1, 2, 3, 4, 5, 6, 7] rfl
              have hDc := hD.sub (ws' := [(h, .inr (2, [.ref ac, .ref au, .ref ab, .ref ae, .ref am, .ref ap, .int sz0, .ref ak, .ref al, .ref af, .ref an, .int (nI (ks_end (n + 16) + i)), .ref ar, .int sm])), (ac, .inl (cJ, 64, .inl ks_k)), (au, .inl (cJ, 16, .inl ks_tt)), (ae, .inl (cJ, 4, .inl ks_tmI)), (am, .inl (cJ, 4, .inl ks_moI)), (al, .inl (cJ, 64, .inl x.1)), (af, .inl (cJ, 4, .inl x.2.1)), (an, .inl (cJ, 4, .inl x.2.2))]) [0, 1, 2, 3, 4, 5, 6, 7] (by decide) rfl
              have hKc := hK.sub (tys' := [(cJ, .int)]) [0] rfl
              have hFc := va_free (wc := [(h, .inr (2, [.ref ac, .ref au, .ref ab, .ref ae, .ref am, .ref ap, .int sz0, .ref ak, .ref al, .ref af, .ref an, .int (nI (ks_end (n + 16) + i)), .ref ar, .int sm])), (ac, .inl (cJ, 64, .inl ks_k)), (au, .inl (cJ, 16, .inl ks_tt)), (ae, .inl (cJ, 4, .inl ks_tmI)), (am, .inl (cJ, 4, .inl ks_moI)), (al, .inl (cJ, 64, .inl x.1)), (af, .inl (cJ, 4, .inl x.2.1)), (an, .inl (cJ, 4, .inl x.2.2))]) hD hS hA [0, 1, 2, 3, 4, 5, 6, 7] rfl
              refine va_callv (va_runV (As := [.int (((ks_ssl (lN (8 * (n + 16))) (nI (8 * i))).toInt32) &&& 255)]) (rest := []) ⟨hx, hb, hml, hown, hts⟩ (r_come l dC dI H.size h ac au ab ae am ap ak al af an ar cJ sz0 sm (ks_end (n + 16) + i) x.1 x.2.1 x.2.2 (ks_pad f (n + 16)) (((ks_ssl (lN (8 * (n + 16))) (nI (8 * i))).toInt32) &&& 255) (by omega) hv (rf_len8 f (by omega) hlt)) (cwV 1 hts gX2_sum_X2_come rfl rfl rfl (by decide +kernel) ⟨Nat.le_of_ble_eq_true rfl, Nat.le_of_ble_eq_true rfl⟩) ⟨fun a U g mk q => by obtain ⟨q0, q1, qP, qK, qD⟩ := q; exact ⟨q0, q1, qP, va_K.moved (u := U) (U := U.calling g mk a) (Vm.Alike.refl U.vm) qK, qD⟩, va_recv hKc hPc (ci := 2) (q0 := 0) rfl rfl, fun U hU hW => ⟨rfl, by rw [hU], by rw [hU]; exact hPc, va_K.moved hW.alike hKc, hDc.weaken (fun _ _ _ _ => trivial)⟩⟩ rfl rfl hl.1 rfl (lv_room (Nat.le_of_ble_eq_true rfl)) dX2_sum_93 ⟨Nat.zero_le _, Nat.zero_le _⟩) hS (fun q _ h => hFc q h) hFc (fun u t H1 locs ht hvm hw hB hz1 hk1 hS => ?_)
              obtain ⟨b2, f2, n2⟩ := u
              obtain ⟨hP1, hK1, hD1⟩ := hB
              rw [ht] at hP1
              have hK1 := va_K.moved hvm.symm hK1
              try dsimp only at hw
              obtain ⟨hP, hD⟩ := va_join (wr := [(ak, .inl (cJ, 16, .inl fk)), (ar, .inl (cJ, 16, .inl rs)), (ab, .inl (cJ, 4, .inl ks_begI))]) (w1 := [(h, .inr (2, [.ref ac, .ref au, .ref ab, .ref ae, .ref am, .ref ap, .int sz0, .ref ak, .ref al, .ref af, .ref an, .int (nI (ks_end (n + 16) + i + 1)), .ref ar, .int sm])), (ac, .inl (cJ, 64, .inl ks_k)), (au, .inl (cJ, 16, .inl ks_tt)), (ae, .inl (cJ, 4, .inl ks_tmI)), (am, .inl (cJ, 4, .inl ks_moI)), (al, .inl (cJ, 64, .inl b2)), (af, .inl (cJ, 4, .inl f2)), (an, .inl (cJ, 4, .inl n2))]) hP hD [0, 1, 2, 3, 4, 5, 6, 7] [8, 9, 10] rfl rfl (by decide) (by decide) hk1 hFc hP1 hD1
              have hP := hP.sub (ws' := [(h, .inr (2, [.ref ac, .ref au, .ref ab, .ref ae, .ref am, .ref ap, .int sz0, .ref ak, .ref al, .ref af, .ref an, .int (nI (ks_end (n + 16) + i + 1)), .ref ar, .int sm])), (ac, .inl (cJ, 64, .inl ks_k)), (au, .inl (cJ, 16, .inl ks_tt)), (ae, .inl (cJ, 4, .inl ks_tmI)), (am, .inl (cJ, 4, .inl ks_moI)), (al, .inl (cJ, 64, .inl b2)), (af, .inl (cJ, 4, .inl f2)), (an, .inl (cJ, 4, .inl n2)), (ak, .inl (cJ, 16, .inl fk)), (ar, .inl (cJ, 16, .inl rs)), (ab, .inl (cJ, 4, .inl ks_begI))]) [3, 4, 5, 6, 7, 8, 9, 10, 0, 1, 2] rfl
              have hD := hD.sub (ws' := [(h, .inr (2, [.ref ac, .ref au, .ref ab, .ref ae, .ref am, .ref ap, .int sz0, .ref ak, .ref al, .ref af, .ref an, .int (nI (ks_end (n + 16) + i + 1)), .ref ar, .int sm])), (ac, .inl (cJ, 64, .inl ks_k)), (au, .inl (cJ, 16, .inl ks_tt)), (ae, .inl (cJ, 4, .inl ks_tmI)), (am, .inl (cJ, 4, .inl ks_moI)), (al, .inl (cJ, 64, .inl b2)), (af, .inl (cJ, 4, .inl f2)), (an, .inl (cJ, 4, .inl n2)), (ak, .inl (cJ, 16, .inl fk)), (ar, .inl (cJ, 16, .inl rs)), (ab, .inl (cJ, 4, .inl ks_begI))]) [3, 4, 5, 6, 7, 8, 9, 10, 0, 1, 2] (by decide) rfl
              generalize H1 = H at hP hS ⊢
              have hP : va_P (dC, dI) vwCl [(h, .inr (2, [.ref ac, .ref au, .ref ab, .ref ae, .ref am, .ref ap, .int sz0, .ref ak, .ref al, .ref af, .ref an, .int (nI (ks_end (n + 16) + i + 1)), .ref ar, .int sm])), (ac, .inl (cJ, 64, .inl ks_k)), (au, .inl (cJ, 16, .inl ks_tt)), (ae, .inl (cJ, 4, .inl ks_tmI)), (am, .inl (cJ, 4, .inl ks_moI)), (al, .inl (cJ, 64, .inl b2)), (af, .inl (cJ, 4, .inl f2)), (an, .inl (cJ, 4, .inl n2)), (ak, .inl (cJ, 16, .inl fk)), (ar, .inl (cJ, 16, .inl rs)), (ab, .inl (cJ, 4, .inl ks_begI))] H := hP
              have hD : va_D A [(h, .inr (2, [.ref ac, .ref au, .ref ab, .ref ae, .ref am, .ref ap, .int sz0, .ref ak, .ref al, .ref af, .ref an, .int (nI (ks_end (n + 16) + i + 1)), .ref ar, .int sm])), (ac, .inl (cJ, 64, .inl ks_k)), (au, .inl (cJ, 16, .inl ks_tt)), (ae, .inl (cJ, 4, .inl ks_tmI)), (am, .inl (cJ, 4, .inl ks_moI)), (al, .inl (cJ, 64, .inl b2)), (af, .inl (cJ, 4, .inl f2)), (an, .inl (cJ, 4, .inl n2)), (ak, .inl (cJ, 16, .inl fk)), (ar, .inl (cJ, 16, .inl rs)), (ab, .inl (cJ, 4, .inl ks_begI))] := hD
              refine lv_iinc (v := nI (i + 1)) (lv' := [(5, .int (nI (i + 1))), (3, .long (lN (8 * (n + 16)))), (2, .int (nI n)), (0, .ref h)]) hx hb dX2_sum_96 hl (k := 0) rfl (nI_1 i) (by decide) rfl (fun ls hl => ?_)
              refine lv_goto (tgt := 73) hx hb dX2_sum_99 (by decide) ?_
              exact ih (b2, f2, n2) ls H locs ⟨hw, lv_sub hl [0, 1, 2, 3] rfl, hP, hD, hS⟩
          · skip
            intro x ls H locs hI
            obtain ⟨hv, hl, hP, hD, hS⟩ := hI
            refine lv_iload hx hb dX2_sum_73 (lv_at hl 0 rfl) ?_
            refine lv_bipush (v := 8) hx hb dX2_sum_75 (by decide) ?_
            refine lv_icmp_ge (tgt := 102) hx hb dX2_sum_77 (by decide) (fun hc => ?_) (fun hc => ?_)
            · skip
              have hq : ks_4 x.2.1 = ks_sum f (n + 16) := by
                rw [hv.1, show (ks_end (n + 16) + 8) / 64 = ((n + 16) + 8) / 64 + 1 by unfold ks_end; omega]
                rfl
              refine lv_iconst (v := 0) hx hb dX2_sum_102 (by decide) ?_
              refine kz_top (y := nI 0) nI_0.symm ?_
              refine lv_istore (lv' := [(5, .int (nI 0)), (3, .long (lN (8 * (n + 16)))), (2, .int (nI n)), (0, .ref h)]) hx hb dX2_sum_103 hl (by decide) rfl (fun ls hl => ?_)
              refine kz_loop (σ := Nat → Int32) (fun i y2 ls H locs => (∀ j, j < i → y2 j = (x.2.1 (j / 4) >>> (nI (8 * (j % 4)) &&& 31)) &&& 255) ∧ lv_has ls 6 [(5, .int (nI i)), (2, .int (nI n)), (0, .ref h)] ∧ va_P (dC, dI) vwCl [(h, .inr (2, [.ref ac, .ref au, .ref ab, .ref ae, .ref am, .ref ap, .int sz0, .ref ak, .ref al, .ref af, .ref an, .int (nI (ks_end (n + 16) + 8)), .ref ar, .int sm])), (ac, .inl (cJ, 64, .inl ks_k)), (au, .inl (cJ, 16, .inl ks_tt)), (ae, .inl (cJ, 4, .inl ks_tmI)), (am, .inl (cJ, 4, .inl ks_moI)), (al, .inl (cJ, 64, .inl x.1)), (af, .inl (cJ, 4, .inl x.2.1)), (an, .inl (cJ, 4, .inl x.2.2)), (ak, .inl (cJ, 16, .inl fk)), (ar, .inl (cJ, 16, .inl y2)), (ab, .inl (cJ, 4, .inl ks_begI))] H ∧ va_D A [(h, .inr (2, [.ref ac, .ref au, .ref ab, .ref ae, .ref am, .ref ap, .int sz0, .ref ak, .ref al, .ref af, .ref an, .int (nI (ks_end (n + 16) + 8)), .ref ar, .int sm])), (ac, .inl (cJ, 64, .inl ks_k)), (au, .inl (cJ, 16, .inl ks_tt)), (ae, .inl (cJ, 4, .inl ks_tmI)), (am, .inl (cJ, 4, .inl ks_moI)), (al, .inl (cJ, 64, .inl x.1)), (af, .inl (cJ, 4, .inl x.2.1)), (an, .inl (cJ, 4, .inl x.2.2)), (ak, .inl (cJ, 16, .inl fk)), (ar, .inl (cJ, 16, .inl y2)), (ab, .inl (cJ, 4, .inl ks_begI))] ∧ va_S A s.heap H locs) 16 ?_ ?_ 0 rs ls _ _ (Nat.zero_le _) ⟨fun j hj => absurd hj (Nat.not_lt_zero j), lv_sub hl [0, 2, 3] rfl, hP, hD, hS⟩
              · skip
                intro i y2 ls H locs hlt hI ih
                obtain ⟨hv2, hl, hP, hD, hS⟩ := hI
                refine lv_iload hx hb dX2_sum_105 (lv_at hl 0 rfl) ?_
                refine lv_bipush (v := 16) hx hb dX2_sum_107 (by decide) ?_
                refine lv_icmp_ge (tgt := 146) hx hb dX2_sum_109 (by decide) (fun hc => ?_) (fun hc => ?_)
                · skip
                  exact absurd hc (nI_ge (a := i) (b := 16) hlt (by decide))
                · skip
                  refine lv_aload_n hx hb dX2_sum_112 rfl (lv_at hl 2 rfl) ?_
                  refine va_get (D := (dC, dI)) (ci := 2) (v := .ref ar) (C := RX2) (T := TX2) (N := 14) hx hb hts (by decide +kernel) hown hK hP 0 rfl rfl 12 (by decide) (hts (.fieldLink RX2 108 "KeySumsModel" "result" "[I") (by decide +kernel)) (fun _ h9 => h9) rfl dX2_sum_113 ?_
                  refine lv_iload hx hb dX2_sum_116 (lv_at hl 0 rfl) ?_
                  refine lv_aload_n hx hb dX2_sum_118 rfl (lv_at hl 2 rfl) ?_
                  refine va_get (D := (dC, dI)) (ci := 2) (v := .ref af) (C := RX2) (T := TX2) (N := 14) hx hb hts (by decide +kernel) hown hK hP 0 rfl rfl 9 (by decide) (hts (.fieldLink RX2 102 "KeySumsModel" "four" "[I") (by decide +kernel)) (fun _ h9 => h9) rfl dX2_sum_119 ?_
                  refine lv_iload hx hb dX2_sum_122 (lv_at hl 0 rfl) ?_
                  refine lv_iconst (v := 4) hx hb dX2_sum_124 (by decide) ?_
                  refine lv_idiv hx hb dX2_sum_125 (by decide) ?_
                  refine kz_top (y := nI (i / 4)) (pk_div (d := 4) (by omega) (by decide) (by decide)) ?_
                  refine kz_iald (j := (i / 4)) hx hb hK hP 6 0 rfl rfl (show i / 4 < 4 by omega) (by decide) dX2_sum_126 ?_
                  refine lv_bipush (v := 8) hx hb dX2_sum_127 (by decide) ?_
                  refine lv_iload hx hb dX2_sum_129 (lv_at hl 0 rfl) ?_
                  refine lv_iconst (v := 4) hx hb dX2_sum_131 (by decide) ?_
                  refine lv_irem hx hb dX2_sum_132 (by decide) ?_
                  refine kz_top (y := nI (i % 4)) (pk_rem (d := 4) (by omega) (by decide) (by decide)) ?_
                  refine lv_imul hx hb dX2_sum_133 ?_
                  refine kz_top (y := nI (8 * (i % 4))) (pk_mul 8 (i % 4)) ?_
                  refine lv_ishr hx hb dX2_sum_134 ?_
                  refine lv_sipush (v := 255) hx hb dX2_sum_135 (by decide) ?_
                  refine lv_iand hx hb dX2_sum_138 ?_
                  refine kz_iast (j := i) hx hb hK hP hD hS 9 0 rfl rfl (hlt) (by decide) dX2_sum_139 (fun H locs hP hD hS => ?_)
                  have hP : va_P (dC, dI) vwCl [(h, .inr (2, [.ref ac, .ref au, .ref ab, .ref ae, .ref am, .ref ap, .int sz0, .ref ak, .ref al, .ref af, .ref an, .int (nI (ks_end (n + 16) + 8)), .ref ar, .int sm])), (ac, .inl (cJ, 64, .inl ks_k)), (au, .inl (cJ, 16, .inl ks_tt)), (ae, .inl (cJ, 4, .inl ks_tmI)), (am, .inl (cJ, 4, .inl ks_moI)), (al, .inl (cJ, 64, .inl x.1)), (af, .inl (cJ, 4, .inl x.2.1)), (an, .inl (cJ, 4, .inl x.2.2)), (ak, .inl (cJ, 16, .inl fk)), (ar, .inl (cJ, 16, .inl (upd y2 i (((x.2.1 (i / 4)) >>> ((nI (8 * (i % 4))) &&& 31)) &&& 255)))), (ab, .inl (cJ, 4, .inl ks_begI))] H := hP
                  have hD : va_D A [(h, .inr (2, [.ref ac, .ref au, .ref ab, .ref ae, .ref am, .ref ap, .int sz0, .ref ak, .ref al, .ref af, .ref an, .int (nI (ks_end (n + 16) + 8)), .ref ar, .int sm])), (ac, .inl (cJ, 64, .inl ks_k)), (au, .inl (cJ, 16, .inl ks_tt)), (ae, .inl (cJ, 4, .inl ks_tmI)), (am, .inl (cJ, 4, .inl ks_moI)), (al, .inl (cJ, 64, .inl x.1)), (af, .inl (cJ, 4, .inl x.2.1)), (an, .inl (cJ, 4, .inl x.2.2)), (ak, .inl (cJ, 16, .inl fk)), (ar, .inl (cJ, 16, .inl (upd y2 i (((x.2.1 (i / 4)) >>> ((nI (8 * (i % 4))) &&& 31)) &&& 255)))), (ab, .inl (cJ, 4, .inl ks_begI))] := hD
                  refine lv_iinc (v := nI (i + 1)) (lv' := [(5, .int (nI (i + 1))), (2, .int (nI n)), (0, .ref h)]) hx hb dX2_sum_140 hl (k := 0) rfl (nI_1 i) (by decide) rfl (fun ls hl => ?_)
                  refine lv_goto (tgt := 105) hx hb dX2_sum_143 (by decide) ?_
                  refine ih _ ls H locs ⟨?_, lv_sub hl [0, 1, 2] rfl, hP, hD, hS⟩
                  intro j hj
                  by_cases q : j = i
                  · subst q; rw [pk_us]
                  · rw [pk_un q]; exact hv2 j (by omega)
              · skip
                intro y2 ls H locs hI
                obtain ⟨hv2, hl, hP, hD, hS⟩ := hI
                refine lv_iload hx hb dX2_sum_105 (lv_at hl 0 rfl) ?_
                refine lv_bipush (v := 16) hx hb dX2_sum_107 (by decide) ?_
                refine lv_icmp_ge (tgt := 146) hx hb dX2_sum_109 (by decide) (fun hc => ?_) (fun hc => ?_)
                · skip
                  refine lv_aload_n hx hb dX2_sum_146 rfl (lv_at hl 2 rfl) ?_
                  refine lv_iconst (v := 1) hx hb dX2_sum_147 (by decide) ?_
                  refine va_put (D := (dC, dI)) (ci := 2) (v := .int 1) (ty := .boolean) (C := RX2) (T := TX2) (N := 14) hx hb hts (by decide +kernel) tyX2 tyX2_ok nmX2 hown hK hP hD hS 0 rfl rfl 13 (by decide) (hts (.fieldLink RX2 140 "KeySumsModel" "isSummed" "Z") (by decide +kernel)) (fun _ h9 => h9) rfl (by decide +kernel) rfl rfl (Nat.le_of_ble_eq_true rfl) dX2_sum_148 (fun H locs hP hD hS => ?_)
                  have hP : va_P (dC, dI) vwCl [(h, .inr (2, [.ref ac, .ref au, .ref ab, .ref ae, .ref am, .ref ap, .int sz0, .ref ak, .ref al, .ref af, .ref an, .int (nI (ks_end (n + 16) + 8)), .ref ar, .int 1])), (ac, .inl (cJ, 64, .inl ks_k)), (au, .inl (cJ, 16, .inl ks_tt)), (ae, .inl (cJ, 4, .inl ks_tmI)), (am, .inl (cJ, 4, .inl ks_moI)), (al, .inl (cJ, 64, .inl x.1)), (af, .inl (cJ, 4, .inl x.2.1)), (an, .inl (cJ, 4, .inl x.2.2)), (ak, .inl (cJ, 16, .inl fk)), (ar, .inl (cJ, 16, .inl y2)), (ab, .inl (cJ, 4, .inl ks_begI))] H := hP
                  have hD : va_D A [(h, .inr (2, [.ref ac, .ref au, .ref ab, .ref ae, .ref am, .ref ap, .int sz0, .ref ak, .ref al, .ref af, .ref an, .int (nI (ks_end (n + 16) + 8)), .ref ar, .int 1])), (ac, .inl (cJ, 64, .inl ks_k)), (au, .inl (cJ, 16, .inl ks_tt)), (ae, .inl (cJ, 4, .inl ks_tmI)), (am, .inl (cJ, 4, .inl ks_moI)), (al, .inl (cJ, 64, .inl x.1)), (af, .inl (cJ, 4, .inl x.2.1)), (an, .inl (cJ, 4, .inl x.2.2)), (ak, .inl (cJ, 16, .inl fk)), (ar, .inl (cJ, 16, .inl y2)), (ab, .inl (cJ, 4, .inl ks_begI))] := hD
                  refine lv_aload_n hx hb dX2_sum_151 rfl (lv_at hl 2 rfl) ?_
                  have hPc := hP.sub (ws' := [(h, .inr (2, [.ref ac, .ref au, .ref ab, .ref ae, .ref am, .ref ap, .int sz0, .ref ak, .ref al, .ref af, .ref an, .int (nI (ks_end (n + 16) + 8)), .ref ar, .int 1])), (ab, .inl (cJ, 4, .inl ks_begI)), (af, .inl (cJ, 4, .inl x.2.1))]) [0, 10, 6] rfl
                  have hDc := hD.sub (ws' := [(h, .inr (2, [.ref ac, .ref au, .ref ab, .ref ae, .ref am, .ref ap, .int sz0, .ref ak, .ref al, .ref af, .ref an, .int (nI (ks_end (n + 16) + 8)), .ref ar, .int 1])), (ab, .inl (cJ, 4, .inl ks_begI)), (af, .inl (cJ, 4, .inl x.2.1))]) [0, 10, 6] (by decide) rfl
                  have hKc := hK.sub (tys' := [(cJ, .int)]) [0] rfl
                  have hFc := va_free (wc := [(h, .inr (2, [.ref ac, .ref au, .ref ab, .ref ae, .ref am, .ref ap, .int sz0, .ref ak, .ref al, .ref af, .ref an, .int (nI (ks_end (n + 16) + 8)), .ref ar, .int 1])), (ab, .inl (cJ, 4, .inl ks_begI)), (af, .inl (cJ, 4, .inl x.2.1))]) hD hS hA [0, 10, 6] rfl
                  refine va_callv (va_runV (As := []) (rest := []) ⟨hx, hb, hml, hown, hts⟩ (r_anew l dC dI H.size h ac au ab ae am ap ak al af an ar cJ sz0 (nI (ks_end (n + 16) + 8)) 1 ks_begI x.2.1) (cwV 0 hts gX2_sum_X2_anew rfl rfl rfl (by decide +kernel) ⟨Nat.le_of_ble_eq_true rfl, Nat.le_of_ble_eq_true rfl⟩) ⟨fun a U g mk q => by obtain ⟨q0, q1, qP, qK, qD⟩ := q; exact ⟨q0, q1, qP, va_K.moved (u := U) (U := U.calling g mk a) (Vm.Alike.refl U.vm) qK, qD⟩, va_recv hKc hPc (ci := 2) (q0 := 0) rfl rfl, fun U hU hW => ⟨rfl, by rw [hU], by rw [hU]; exact hPc, va_K.moved hW.alike hKc, hDc.weaken (fun _ _ _ _ => trivial)⟩⟩ rfl rfl hl.1 rfl (lv_room (Nat.le_of_ble_eq_true rfl)) dX2_sum_152 ⟨Nat.zero_le _, Nat.zero_le _⟩) hS (fun q _ h => hFc q h) hFc (fun u t H1 locs ht hvm hw hB hz1 hk1 hS => ?_)
                  obtain ⟨hP1, hK1, hD1⟩ := hB
                  rw [ht] at hP1
                  have hK1 := va_K.moved hvm.symm hK1
                  try dsimp only at hw
                  obtain ⟨hP, hD⟩ := va_join (wr := [(ac, .inl (cJ, 64, .inl ks_k)), (au, .inl (cJ, 16, .inl ks_tt)), (ae, .inl (cJ, 4, .inl ks_tmI)), (am, .inl (cJ, 4, .inl ks_moI)), (al, .inl (cJ, 64, .inl x.1)), (an, .inl (cJ, 4, .inl x.2.2)), (ak, .inl (cJ, 16, .inl fk)), (ar, .inl (cJ, 16, .inl y2))]) (w1 := [(h, .inr (2, [.ref ac, .ref au, .ref ab, .ref ae, .ref am, .ref ap, .int sz0, .ref ak, .ref al, .ref af, .ref an, .int (nI 0), .ref ar, .int 1])), (ab, .inl (cJ, 4, .inl ks_begI)), (af, .inl (cJ, 4, .inl u))]) hP hD [0, 10, 6] [1, 2, 3, 4, 5, 7, 8, 9] rfl rfl (by decide) (by decide) hk1 hFc hP1 hD1
                  have hP := hP.sub (ws' := [(h, .inr (2, [.ref ac, .ref au, .ref ab, .ref ae, .ref am, .ref ap, .int sz0, .ref ak, .ref al, .ref af, .ref an, .int (nI 0), .ref ar, .int 1])), (ac, .inl (cJ, 64, .inl ks_k)), (au, .inl (cJ, 16, .inl ks_tt)), (ae, .inl (cJ, 4, .inl ks_tmI)), (am, .inl (cJ, 4, .inl ks_moI)), (al, .inl (cJ, 64, .inl x.1)), (af, .inl (cJ, 4, .inl u)), (an, .inl (cJ, 4, .inl x.2.2)), (ak, .inl (cJ, 16, .inl fk)), (ar, .inl (cJ, 16, .inl y2)), (ab, .inl (cJ, 4, .inl ks_begI))]) [8, 0, 1, 2, 3, 4, 10, 5, 6, 7, 9] rfl
                  have hD := hD.sub (ws' := [(h, .inr (2, [.ref ac, .ref au, .ref ab, .ref ae, .ref am, .ref ap, .int sz0, .ref ak, .ref al, .ref af, .ref an, .int (nI 0), .ref ar, .int 1])), (ac, .inl (cJ, 64, .inl ks_k)), (au, .inl (cJ, 16, .inl ks_tt)), (ae, .inl (cJ, 4, .inl ks_tmI)), (am, .inl (cJ, 4, .inl ks_moI)), (al, .inl (cJ, 64, .inl x.1)), (af, .inl (cJ, 4, .inl u)), (an, .inl (cJ, 4, .inl x.2.2)), (ak, .inl (cJ, 16, .inl fk)), (ar, .inl (cJ, 16, .inl y2)), (ab, .inl (cJ, 4, .inl ks_begI))]) [8, 0, 1, 2, 3, 4, 10, 5, 6, 7, 9] (by decide) rfl
                  generalize H1 = H at hP hS ⊢
                  have hP : va_P (dC, dI) vwCl [(h, .inr (2, [.ref ac, .ref au, .ref ab, .ref ae, .ref am, .ref ap, .int sz0, .ref ak, .ref al, .ref af, .ref an, .int (nI 0), .ref ar, .int 1])), (ac, .inl (cJ, 64, .inl ks_k)), (au, .inl (cJ, 16, .inl ks_tt)), (ae, .inl (cJ, 4, .inl ks_tmI)), (am, .inl (cJ, 4, .inl ks_moI)), (al, .inl (cJ, 64, .inl x.1)), (af, .inl (cJ, 4, .inl u)), (an, .inl (cJ, 4, .inl x.2.2)), (ak, .inl (cJ, 16, .inl fk)), (ar, .inl (cJ, 16, .inl y2)), (ab, .inl (cJ, 4, .inl ks_begI))] H := hP
                  have hD : va_D A [(h, .inr (2, [.ref ac, .ref au, .ref ab, .ref ae, .ref am, .ref ap, .int sz0, .ref ak, .ref al, .ref af, .ref an, .int (nI 0), .ref ar, .int 1])), (ac, .inl (cJ, 64, .inl ks_k)), (au, .inl (cJ, 16, .inl ks_tt)), (ae, .inl (cJ, 4, .inl ks_tmI)), (am, .inl (cJ, 4, .inl ks_moI)), (al, .inl (cJ, 64, .inl x.1)), (af, .inl (cJ, 4, .inl u)), (an, .inl (cJ, 4, .inl x.2.2)), (ak, .inl (cJ, 16, .inl fk)), (ar, .inl (cJ, 16, .inl y2)), (ab, .inl (cJ, 4, .inl ks_begI))] := hD
                  refine lv_iload_n hx hb dX2_sum_155 rfl (lv_at hl 1 rfl) ?_
                  have hP9 := hP.sub (ws' := [(h, .inr (2, [.ref ac, .ref au, .ref ab, .ref ae, .ref am, .ref ap, .int sz0, .ref ak, .ref al, .ref af, .ref an, .int (nI 0), .ref ar, .int 1])), (ac, .inl (cJ, 64, .inl ks_k)), (au, .inl (cJ, 16, .inl ks_tt)), (ae, .inl (cJ, 4, .inl ks_tmI)), (am, .inl (cJ, 4, .inl ks_moI)), (al, .inl (cJ, 64, .inl x.1)), (af, .inl (cJ, 4, .inl u)), (an, .inl (cJ, 4, .inl x.2.2)), (ak, .inl (cJ, 16, .inl fk)), (ar, .inl (cJ, 16, .inl y2)), (ab, .inl (cJ, 4, .inl ks_begI))]) [0, 1, 2, 3, 4, 5, 6, 7, 8, 9, 10] rfl
                  have hD9 := hD.sub (ws' := [(h, .inr (2, [.ref ac, .ref au, .ref ab, .ref ae, .ref am, .ref ap, .int sz0, .ref ak, .ref al, .ref af, .ref an, .int (nI 0), .ref ar, .int 1])), (ac, .inl (cJ, 64, .inl ks_k)), (au, .inl (cJ, 16, .inl ks_tt)), (ae, .inl (cJ, 4, .inl ks_tmI)), (am, .inl (cJ, 4, .inl ks_moI)), (al, .inl (cJ, 64, .inl x.1)), (af, .inl (cJ, 4, .inl u)), (an, .inl (cJ, 4, .inl x.2.2)), (ak, .inl (cJ, 16, .inl fk)), (ar, .inl (cJ, 16, .inl y2)), (ab, .inl (cJ, 4, .inl ks_begI))]) [0, 1, 2, 3, 4, 5, 6, 7, 8, 9, 10] (by decide) rfl
                  have hK9 := hK.sub (tys' := [(cJ, .int)]) [0] rfl
                  exact W.iret (v := (nI n)) hx hb hr (fun t ht hW => ⟨⟨(nI n), (x.1, u, x.2.2, y2), rfl, ⟨rfl, hw, x.2.1, hq, hv2⟩, by rw [ht]; exact hP9, va_K.moved hW.alike hK9, hD9⟩, hS.F ht⟩) hS.2.2 dX2_sum_156
                · skip
                  exact absurd (nI_le (a := 16) (b := 16) (Nat.le_refl _) (by decide)) hc
            · skip
              exact absurd (nI_le (a := 8) (b := 8) (Nat.le_refl _) (by decide)) hc
        · skip
          exact absurd ((nI_eq (a := ks_end (n + 16) % 64) (b := 56) (by omega) (by decide)).mpr (by unfold ks_end; omega)) hc
    · skip
      exact absurd (nI_le (a := 16) (b := 16) (Nat.le_refl _) (by decide)) hc
end
section
set_option maxHeartbeats 4000000 in
set_option maxRecDepth 100000 in
/-- sum -/
theorem r_sum_n (l : Launch) (dC : Nat → ClassId) (dI : Nat → Nat → Nat) (sz : Nat) (h ac au ab ae am ap ak al af an ar : Nat) (cJ : ClassId) (sz0 sm : Int32) (n : Nat) (bl fr fn fk rs f : Nat → Int32) (y : Int32) (h2 : n + 16 < 2 ^ 28) (hi : rf_inv f n bl fr) (hz : y = 0) : Met l yX2_sum wsX2_sum ({ frames := 3, cells := 0, slots := 0, locals := 90 }) (va_Pc [.ref h, .int y] (fun U => U.heap.size = sz ∧ va_P (dC, dI) vwCl [(h, .inr (2, [.ref ac, .ref au, .ref ab, .ref ae, .ref am, .ref ap, .int sz0, .ref ak, .ref al, .ref af, .ref an, .int (nI n), .ref ar, .int sm])), (ac, .inl (cJ, 64, .inl ks_k)), (au, .inl (cJ, 16, .inl ks_tt)), (ae, .inl (cJ, 4, .inl ks_tmI)), (am, .inl (cJ, 4, .inl ks_moI)), (al, .inl (cJ, 64, .inl bl)), (af, .inl (cJ, 4, .inl fr)), (an, .inl (cJ, 4, .inl fn)), (ak, .inl (cJ, 16, .inl fk)), (ar, .inl (cJ, 16, .inl rs)), (ab, .inl (cJ, 4, .inl ks_begI))] U.heap ∧ va_K (dC, dI) vwCl [(cJ, .int)] U ∧ va_D (fun _ => True) [(h, .inr (2, [.ref ac, .ref au, .ref ab, .ref ae, .ref am, .ref ap, .int sz0, .ref ak, .ref al, .ref af, .ref an, .int (nI n), .ref ar, .int sm])), (ac, .inl (cJ, 64, .inl ks_k)), (au, .inl (cJ, 16, .inl ks_tt)), (ae, .inl (cJ, 4, .inl ks_tmI)), (am, .inl (cJ, 4, .inl ks_moI)), (al, .inl (cJ, 64, .inl bl)), (af, .inl (cJ, 4, .inl fr)), (an, .inl (cJ, 4, .inl fn)), (ak, .inl (cJ, 16, .inl fk)), (ar, .inl (cJ, 16, .inl rs)), (ab, .inl (cJ, 4, .inl ks_begI))])) (va_Qi (fun (r : Int32) (u : (Nat → Int32) × (Nat → Int32) × (Nat → Int32) × (Nat → Int32)) => r = nI n ∧ (∀ j, j < 4 → u.2.1 j = ks_begI j) ∧ ∃ z : Nat → Int32, ks_4 z = ks_sum f n ∧ ∀ j, j < 16 → u.2.2.2 j = (z (j / 4) >>> (nI (8 * (j % 4)) &&& 31)) &&& 255) (fun (u : (Nat → Int32) × (Nat → Int32) × (Nat → Int32) × (Nat → Int32)) t => kz_B dC dI [(cJ, .int)] (va_A [(h, .inr (2, [.ref ac, .ref au, .ref ab, .ref ae, .ref am, .ref ap, .int sz0, .ref ak, .ref al, .ref af, .ref an, .int (nI n), .ref ar, .int sm])), (ac, .inl (cJ, 64, .inl ks_k)), (au, .inl (cJ, 16, .inl ks_tt)), (ae, .inl (cJ, 4, .inl ks_tmI)), (am, .inl (cJ, 4, .inl ks_moI)), (al, .inl (cJ, 64, .inl bl)), (af, .inl (cJ, 4, .inl fr)), (an, .inl (cJ, 4, .inl fn)), (ak, .inl (cJ, 16, .inl fk)), (ar, .inl (cJ, 16, .inl rs)), (ab, .inl (cJ, 4, .inl ks_begI))] sz) [(h, .inr (2, [.ref ac, .ref au, .ref ab, .ref ae, .ref am, .ref ap, .int sz0, .ref ak, .ref al, .ref af, .ref an, .int (nI 0), .ref ar, .int 1])), (ac, .inl (cJ, 64, .inl ks_k)), (au, .inl (cJ, 16, .inl ks_tt)), (ae, .inl (cJ, 4, .inl ks_tmI)), (am, .inl (cJ, 4, .inl ks_moI)), (al, .inl (cJ, 64, .inl u.1)), (af, .inl (cJ, 4, .inl u.2.1)), (an, .inl (cJ, 4, .inl u.2.2.1)), (ak, .inl (cJ, 16, .inl fk)), (ar, .inl (cJ, 16, .inl u.2.2.2)), (ab, .inl (cJ, 4, .inl ks_begI))] t) (va_A [(h, .inr (2, [.ref ac, .ref au, .ref ab, .ref ae, .ref am, .ref ap, .int sz0, .ref ak, .ref al, .ref af, .ref an, .int (nI n), .ref ar, .int sm])), (ac, .inl (cJ, 64, .inl ks_k)), (au, .inl (cJ, 16, .inl ks_tt)), (ae, .inl (cJ, 4, .inl ks_tmI)), (am, .inl (cJ, 4, .inl ks_moI)), (al, .inl (cJ, 64, .inl bl)), (af, .inl (cJ, 4, .inl fr)), (an, .inl (cJ, 4, .inl fn)), (ak, .inl (cJ, 16, .inl fk)), (ar, .inl (cJ, 16, .inl rs)), (ab, .inl (cJ, 4, .inl ks_begI))] sz)) 0 0 (va_A [(h, .inr (2, [.ref ac, .ref au, .ref ab, .ref ae, .ref am, .ref ap, .int sz0, .ref ak, .ref al, .ref af, .ref an, .int (nI n), .ref ar, .int sm])), (ac, .inl (cJ, 64, .inl ks_k)), (au, .inl (cJ, 16, .inl ks_tt)), (ae, .inl (cJ, 4, .inl ks_tmI)), (am, .inl (cJ, 4, .inl ks_moI)), (al, .inl (cJ, 64, .inl bl)), (af, .inl (cJ, 4, .inl fr)), (an, .inl (cJ, 4, .inl fn)), (ak, .inl (cJ, 16, .inl fk)), (ar, .inl (cJ, 16, .inl rs)), (ab, .inl (cJ, 4, .inl ks_begI))] sz) := by
  refine Met.ofW (cc := cX2_sum) (maxL := 6) (ret := (some .int)) (by decide) rfl ?_
  intro p e s m args below meth c s₁ B hml hv
  obtain ⟨rfl, hsz, hP, hK, hD0⟩ := hv
  have hx := B.exec
  have hb := B.bytes
  have hr := B.returns
  have hts := atoms_spec (ws := wsX2_sum) B.pre
  have hown : s.vm.findClass RX2 = some m.cls := findClass_of_methodNamed B.named
  have hlocks := B.notSynchronized
  subst hsz
  have hD := hD0.self (sz := s.heap.size)
  generalize hAe : va_A [(h, .inr (2, [.ref ac, .ref au, .ref ab, .ref ae, .ref am, .ref ap, .int sz0, .ref ak, .ref al, .ref af, .ref an, .int (nI n), .ref ar, .int sm])), (ac, .inl (cJ, 64, .inl ks_k)), (au, .inl (cJ, 16, .inl ks_tt)), (ae, .inl (cJ, 4, .inl ks_tmI)), (am, .inl (cJ, 4, .inl ks_moI)), (al, .inl (cJ, 64, .inl bl)), (af, .inl (cJ, 4, .inl fr)), (an, .inl (cJ, 4, .inl fn)), (ak, .inl (cJ, 16, .inl fk)), (ar, .inl (cJ, 16, .inl rs)), (ab, .inl (cJ, 4, .inl ks_begI))] s.heap.size = A at hD  ⊢
  have hA : ∀ q : Nat, s.heap.size ≤ q → A q := fun q h => by rw [← hAe]; exact Or.inr h
  have hS : va_S A s.heap s.heap [] := va_S.rf
  have hP : va_P (dC, dI) vwCl [(h, .inr (2, [.ref ac, .ref au, .ref ab, .ref ae, .ref am, .ref ap, .int sz0, .ref ak, .ref al, .ref af, .ref an, .int (nI n), .ref ar, .int sm])), (ac, .inl (cJ, 64, .inl ks_k)), (au, .inl (cJ, 16, .inl ks_tt)), (ae, .inl (cJ, 4, .inl ks_tmI)), (am, .inl (cJ, 4, .inl ks_moI)), (al, .inl (cJ, 64, .inl bl)), (af, .inl (cJ, 4, .inl fr)), (an, .inl (cJ, 4, .inl fn)), (ak, .inl (cJ, 16, .inl fk)), (ar, .inl (cJ, 16, .inl rs)), (ab, .inl (cJ, 4, .inl ks_begI))] s.heap := hP
  have hl := lv_entry ([.ref h, .int y]) (n := 6) (Nat.le_of_ble_eq_true rfl)
  rw [lg_entry_eq]
  generalize (lg_sl ([.ref h, .int y]) ++ List.replicate (6 - (lg_sl ([.ref h, .int y])).length) Slot.unset).toArray = ls at hl ⊢
  have hl : lv_has ls 6 [(0, .ref h), (1, .int y)] := hl
  refine lv_aload_n hx hb dX2_sum_0 rfl (lv_at hl 0 rfl) ?_
  refine va_get (D := (dC, dI)) (ci := 2) (v := .int (nI n)) (C := RX2) (T := TX2) (N := 14) hx hb hts (by decide +kernel) hown hK hP 0 rfl rfl 11 (by decide) (hts (.fieldLink RX2 114 "KeySumsModel" "many" "I") (by decide +kernel)) (fun _ h9 => h9) rfl dX2_sum_1 ?_
  refine lv_istore_n (lv' := [(2, .int (nI n)), (0, .ref h), (1, .int y)]) hx hb dX2_sum_4 rfl hl (by decide) rfl (fun ls hl => ?_)
  refine lv_iconst (v := 0) hx hb dX2_sum_5 (by decide) ?_
  refine kz_top (y := nI 0) nI_0.symm ?_
  refine lv_istore_n (lv' := [(3, .int (nI 0)), (2, .int (nI n)), (0, .ref h), (1, .int y)]) hx hb dX2_sum_6 rfl hl (by decide) rfl (fun ls hl => ?_)
  refine lv_iload_n hx hb dX2_sum_7 rfl (lv_at hl 0 rfl) ?_
  refine lv_bipush (v := 16) hx hb dX2_sum_8 (by decide) ?_
  refine lv_icmp_ge (tgt := 33) hx hb dX2_sum_10 (by decide) (fun hc => ?_) (fun hc => ?_)
  · skip
    exact absurd hc (by decide)
  · skip
    refine lv_iload_n hx hb dX2_sum_13 rfl (lv_at hl 3 rfl) ?_
    refine lv_if_eq (tgt := 33) hx hb dX2_sum_14 (by decide) (fun hc => ?_) (fun hc => ?_)
    · skip
      obtain ⟨x, hxe⟩ : ∃ x : (Nat → Int32) × (Nat → Int32) × (Nat → Int32), x = (bl, fr, fn) := ⟨_, rfl⟩
      have hxi : rf_inv f n x.1 x.2.1 := by rw [hxe]; exact hi
      have hP : va_P (dC, dI) vwCl [(h, .inr (2, [.ref ac, .ref au, .ref ab, .ref ae, .ref am, .ref ap, .int sz0, .ref ak, .ref al, .ref af, .ref an, .int (nI n), .ref ar, .int sm])), (ac, .inl (cJ, 64, .inl ks_k)), (au, .inl (cJ, 16, .inl ks_tt)), (ae, .inl (cJ, 4, .inl ks_tmI)), (am, .inl (cJ, 4, .inl ks_moI)), (al, .inl (cJ, 64, .inl x.1)), (af, .inl (cJ, 4, .inl x.2.1)), (an, .inl (cJ, 4, .inl x.2.2)), (ak, .inl (cJ, 16, .inl fk)), (ar, .inl (cJ, 16, .inl rs)), (ab, .inl (cJ, 4, .inl ks_begI))] s.heap := by rw [hxe]; exact hP
      have hD : va_D A [(h, .inr (2, [.ref ac, .ref au, .ref ab, .ref ae, .ref am, .ref ap, .int sz0, .ref ak, .ref al, .ref af, .ref an, .int (nI n), .ref ar, .int sm])), (ac, .inl (cJ, 64, .inl ks_k)), (au, .inl (cJ, 16, .inl ks_tt)), (ae, .inl (cJ, 4, .inl ks_tmI)), (am, .inl (cJ, 4, .inl ks_moI)), (al, .inl (cJ, 64, .inl x.1)), (af, .inl (cJ, 4, .inl x.2.1)), (an, .inl (cJ, 4, .inl x.2.2)), (ak, .inl (cJ, 16, .inl fk)), (ar, .inl (cJ, 16, .inl rs)), (ab, .inl (cJ, 4, .inl ks_begI))] := by rw [hxe]; exact hD
      have hi : rf_inv (ks_pad f n) n x.1 x.2.1 := rf_inv_8 hxi (fun j hj => by rw [show ks_pad f n j = f j from if_pos hj])
      have he0 : n + 1 ≤ ks_end n := by unfold ks_end; omega
      have he1 : ks_end n ≤ n + 64 := by unfold ks_end; omega
      refine lv_ldc2 (v := (8)) hx hb hown (hts (.constantLong RX2 138 (8)) (by decide +kernel)) dX2_sum_33 ?_
      refine lv_aload_n hx hb dX2_sum_36 rfl (lv_at hl 2 rfl) ?_
      refine va_get (D := (dC, dI)) (ci := 2) (v := .int (nI n)) (C := RX2) (T := TX2) (N := 14) hx hb hts (by decide +kernel) hown hK hP 0 rfl rfl 11 (by decide) (hts (.fieldLink RX2 114 "KeySumsModel" "many" "I") (by decide +kernel)) (fun _ h9 => h9) rfl dX2_sum_37 ?_
      refine lv_i2l (v := lN n) hx hb dX2_sum_40 (nI_l (by omega)) ?_
      refine lv_lmul hx hb dX2_sum_41 ?_
      refine kz_topl (y := lN (8 * n)) (lN_mul 8 n) ?_
      refine lv_lstore_n (lv' := [(3, .long (lN (8 * n))), (2, .int (nI n)), (0, .ref h), (1, .int y)]) hx hb dX2_sum_42 rfl hl (by decide) rfl (fun ls hl => ?_)
      refine lv_aload_n hx hb dX2_sum_43 rfl (lv_at hl 2 rfl) ?_
      refine lv_sipush (v := 128) hx hb dX2_sum_44 (by decide) ?_
      have hPc := hP.sub (ws' := [(h, .inr (2, [.ref ac, .ref au, .ref ab, .ref ae, .ref am, .ref ap, .int sz0, .ref ak, .ref al, .ref af, .ref an, .int (nI n), .ref ar, .int sm])), (ac, .inl (cJ, 64, .inl ks_k)), (au, .inl (cJ, 16, .inl ks_tt)), (ae, .inl (cJ, 4, .inl ks_tmI)), (am, .inl (cJ, 4, .inl ks_moI)), (al, .inl (cJ, 64, .inl x.1)), (af, .inl (cJ, 4, .inl x.2.1)), (an, .inl (cJ, 4, .inl x.2.2))]) [0, 1, 2, 3, 4, 5, 6, 7] rfl
      have hDc := hD.sub (ws' := [(h, .inr (2, [.ref ac, .ref au, .ref ab, .ref ae, .ref am, .ref ap, .int sz0, .ref ak, .ref al, .ref af, .ref an, .int (nI n), .ref ar, .int sm])), (ac, .inl (cJ, 64, .inl ks_k)), (au, .inl (cJ, 16, .inl ks_tt)), (ae, .inl (cJ, 4, .inl ks_tmI)), (am, .inl (cJ, 4, .inl ks_moI)), (al, .inl (cJ, 64, .inl x.1)), (af, .inl (cJ, 4, .inl x.2.1)), (an, .inl (cJ, 4, .inl x.2.2))]) [0, 1, 2, 3, 4, 5, 6, 7] (by decide) rfl
      have hKc := hK.sub (tys' := [(cJ, .int)]) [0] rfl
      have hFc := va_free (wc := [(h, .inr (2, [.ref ac, .ref au, .ref ab, .ref ae, .ref am, .ref ap, .int sz0, .ref ak, .ref al, .ref af, .ref an, .int (nI n), .ref ar, .int sm])), (ac, .inl (cJ, 64, .inl ks_k)), (au, .inl (cJ, 16, .inl ks_tt)), (ae, .inl (cJ, 4, .inl ks_tmI)), (am, .inl (cJ, 4, .inl ks_moI)), (al, .inl (cJ, 64, .inl x.1)), (af, .inl (cJ, 4, .inl x.2.1)), (an, .inl (cJ, 4, .inl x.2.2))]) hD hS hA [0, 1, 2, 3, 4, 5, 6, 7] rfl
      refine va_callv (va_runV (As := [.int 128]) (rest := []) ⟨hx, hb, hml, hown, hts⟩ (r_come l dC dI s.heap.size h ac au ab ae am ap ak al af an ar cJ sz0 sm n x.1 x.2.1 x.2.2 (ks_pad f n) 128 (by omega) hi (by rw [show ks_pad f n n = 128 by unfold ks_pad; rw [if_neg (Nat.lt_irrefl _), if_pos rfl]])) (cwV 1 hts gX2_sum_X2_come rfl rfl rfl (by decide +kernel) ⟨Nat.le_of_ble_eq_true rfl, Nat.le_of_ble_eq_true rfl⟩) ⟨fun a U g mk q => by obtain ⟨q0, q1, qP, qK, qD⟩ := q; exact ⟨q0, q1, qP, va_K.moved (u := U) (U := U.calling g mk a) (Vm.Alike.refl U.vm) qK, qD⟩, va_recv hKc hPc (ci := 2) (q0 := 0) rfl rfl, fun U hU hW => ⟨rfl, by rw [hU], by rw [hU]; exact hPc, va_K.moved hW.alike hKc, hDc.weaken (fun _ _ _ _ => trivial)⟩⟩ rfl rfl hl.1 rfl (lv_room (Nat.le_of_ble_eq_true rfl)) dX2_sum_47 ⟨Nat.zero_le _, Nat.zero_le _⟩) hS (fun q _ h => hFc q h) hFc (fun u t H1 locs ht hvm hw hB hz1 hk1 hS => ?_)
      obtain ⟨b2, f2, n2⟩ := u
      obtain ⟨hP1, hK1, hD1⟩ := hB
      rw [ht] at hP1
      have hK1 := va_K.moved hvm.symm hK1
      try dsimp only at hw
      obtain ⟨hP, hD⟩ := va_join (wr := [(ak, .inl (cJ, 16, .inl fk)), (ar, .inl (cJ, 16, .inl rs)), (ab, .inl (cJ, 4, .inl ks_begI))]) (w1 := [(h, .inr (2, [.ref ac, .ref au, .ref ab, .ref ae, .ref am, .ref ap, .int sz0, .ref ak, .ref al, .ref af, .ref an, .int (nI (n + 1)), .ref ar, .int sm])), (ac, .inl (cJ, 64, .inl ks_k)), (au, .inl (cJ, 16, .inl ks_tt)), (ae, .inl (cJ, 4, .inl ks_tmI)), (am, .inl (cJ, 4, .inl ks_moI)), (al, .inl (cJ, 64, .inl b2)), (af, .inl (cJ, 4, .inl f2)), (an, .inl (cJ, 4, .inl n2))]) hP hD [0, 1, 2, 3, 4, 5, 6, 7] [8, 9, 10] rfl rfl (by decide) (by decide) hk1 hFc hP1 hD1
      have hP := hP.sub (ws' := [(h, .inr (2, [.ref ac, .ref au, .ref ab, .ref ae, .ref am, .ref ap, .int sz0, .ref ak, .ref al, .ref af, .ref an, .int (nI (n + 1)), .ref ar, .int sm])), (ac, .inl (cJ, 64, .inl ks_k)), (au, .inl (cJ, 16, .inl ks_tt)), (ae, .inl (cJ, 4, .inl ks_tmI)), (am, .inl (cJ, 4, .inl ks_moI)), (al, .inl (cJ, 64, .inl b2)), (af, .inl (cJ, 4, .inl f2)), (an, .inl (cJ, 4, .inl n2)), (ak, .inl (cJ, 16, .inl fk)), (ar, .inl (cJ, 16, .inl rs)), (ab, .inl (cJ, 4, .inl ks_begI))]) [3, 4, 5, 6, 7, 8, 9, 10, 0, 1, 2] rfl
      have hD := hD.sub (ws' := [(h, .inr (2, [.ref ac, .ref au, .ref ab, .ref ae, .ref am, .ref ap, .int sz0, .ref ak, .ref al, .ref af, .ref an, .int (nI (n + 1)), .ref ar, .int sm])), (ac, .inl (cJ, 64, .inl ks_k)), (au, .inl (cJ, 16, .inl ks_tt)), (ae, .inl (cJ, 4, .inl ks_tmI)), (am, .inl (cJ, 4, .inl ks_moI)), (al, .inl (cJ, 64, .inl b2)), (af, .inl (cJ, 4, .inl f2)), (an, .inl (cJ, 4, .inl n2)), (ak, .inl (cJ, 16, .inl fk)), (ar, .inl (cJ, 16, .inl rs)), (ab, .inl (cJ, 4, .inl ks_begI))]) [3, 4, 5, 6, 7, 8, 9, 10, 0, 1, 2] (by decide) rfl
      generalize H1 = H at hP hS ⊢
      have hP : va_P (dC, dI) vwCl [(h, .inr (2, [.ref ac, .ref au, .ref ab, .ref ae, .ref am, .ref ap, .int sz0, .ref ak, .ref al, .ref af, .ref an, .int (nI (n + 1)), .ref ar, .int sm])), (ac, .inl (cJ, 64, .inl ks_k)), (au, .inl (cJ, 16, .inl ks_tt)), (ae, .inl (cJ, 4, .inl ks_tmI)), (am, .inl (cJ, 4, .inl ks_moI)), (al, .inl (cJ, 64, .inl b2)), (af, .inl (cJ, 4, .inl f2)), (an, .inl (cJ, 4, .inl n2)), (ak, .inl (cJ, 16, .inl fk)), (ar, .inl (cJ, 16, .inl rs)), (ab, .inl (cJ, 4, .inl ks_begI))] H := hP
      have hD : va_D A [(h, .inr (2, [.ref ac, .ref au, .ref ab, .ref ae, .ref am, .ref ap, .int sz0, .ref ak, .ref al, .ref af, .ref an, .int (nI (n + 1)), .ref ar, .int sm])), (ac, .inl (cJ, 64, .inl ks_k)), (au, .inl (cJ, 16, .inl ks_tt)), (ae, .inl (cJ, 4, .inl ks_tmI)), (am, .inl (cJ, 4, .inl ks_moI)), (al, .inl (cJ, 64, .inl b2)), (af, .inl (cJ, 4, .inl f2)), (an, .inl (cJ, 4, .inl n2)), (ak, .inl (cJ, 16, .inl fk)), (ar, .inl (cJ, 16, .inl rs)), (ab, .inl (cJ, 4, .inl ks_begI))] := hD
      refine kz_loop (σ := (Nat → Int32) × (Nat → Int32) × (Nat → Int32)) (fun i x ls H locs => rf_inv (ks_pad f n) (n + 1 + i) x.1 x.2.1 ∧ lv_has ls 6 [(3, .long (lN (8 * n))), (2, .int (nI n)), (0, .ref h)] ∧ va_P (dC, dI) vwCl [(h, .inr (2, [.ref ac, .ref au, .ref ab, .ref ae, .ref am, .ref ap, .int sz0, .ref ak, .ref al, .ref af, .ref an, .int (nI (n + 1 + i)), .ref ar, .int sm])), (ac, .inl (cJ, 64, .inl ks_k)), (au, .inl (cJ, 16, .inl ks_tt)), (ae, .inl (cJ, 4, .inl ks_tmI)), (am, .inl (cJ, 4, .inl ks_moI)), (al, .inl (cJ, 64, .inl x.1)), (af, .inl (cJ, 4, .inl x.2.1)), (an, .inl (cJ, 4, .inl x.2.2)), (ak, .inl (cJ, 16, .inl fk)), (ar, .inl (cJ, 16, .inl rs)), (ab, .inl (cJ, 4, .inl ks_begI))] H ∧ va_D A [(h, .inr (2, [.ref ac, .ref au, .ref ab, .ref ae, .ref am, .ref ap, .int sz0, .ref ak, .ref al, .ref af, .ref an, .int (nI (n + 1 + i)), .ref ar, .int sm])), (ac, .inl (cJ, 64, .inl ks_k)), (au, .inl (cJ, 16, .inl ks_tt)), (ae, .inl (cJ, 4, .inl ks_tmI)), (am, .inl (cJ, 4, .inl ks_moI)), (al, .inl (cJ, 64, .inl x.1)), (af, .inl (cJ, 4, .inl x.2.1)), (an, .inl (cJ, 4, .inl x.2.2)), (ak, .inl (cJ, 16, .inl fk)), (ar, .inl (cJ, 16, .inl rs)), (ab, .inl (cJ, 4, .inl ks_begI))] ∧ va_S A s.heap H locs) (ks_end n - (n + 1)) ?_ ?_ 0 (b2, f2, n2) ls _ _ (Nat.zero_le _) ⟨hw, lv_sub hl [0, 1, 2] rfl, hP, hD, hS⟩
      · skip
        intro i x ls H locs hlt hI ih
        obtain ⟨hv, hl, hP, hD, hS⟩ := hI
        refine lv_aload_n hx hb dX2_sum_50 rfl (lv_at hl 2 rfl) ?_
        refine va_get (D := (dC, dI)) (ci := 2) (v := .int (nI (n + 1 + i))) (C := RX2) (T := TX2) (N := 14) hx hb hts (by decide +kernel) hown hK hP 0 rfl rfl 11 (by decide) (hts (.fieldLink RX2 114 "KeySumsModel" "many" "I") (by decide +kernel)) (fun _ h9 => h9) rfl dX2_sum_51 ?_
        refine lv_bipush (v := 64) hx hb dX2_sum_54 (by decide) ?_
        refine lv_irem hx hb dX2_sum_56 (by decide) ?_
        refine kz_top (y := nI ((n + 1 + i) % 64)) (pk_rem (d := 64) (by omega) (by decide) (by decide)) ?_
        refine lv_bipush (v := 56) hx hb dX2_sum_57 (by decide) ?_
        refine lv_icmp_eq (tgt := 70) hx hb dX2_sum_59 (by decide) (fun hc => ?_) (fun hc => ?_)
        · skip
          exact absurd ((nI_eq (a := (n + 1 + i) % 64) (b := 56) (by omega) (by decide)).mp hc) (by unfold ks_end at hlt; omega)
        · skip
          refine lv_aload_n hx hb dX2_sum_62 rfl (lv_at hl 2 rfl) ?_
          refine lv_iconst (v := 0) hx hb dX2_sum_63 (by decide) ?_
          have hPc := hP.sub (ws' := [(h, .inr (2, [.ref ac, .ref au, .ref ab, .ref ae, .ref am, .ref ap, .int sz0, .ref ak, .ref al, .ref af, .ref an, .int (nI (n + 1 + i)), .ref ar, .int sm])), (ac, .inl (cJ, 64, .inl ks_k)), (au, .inl (cJ, 16, .inl ks_tt)), (ae, .inl (cJ, 4, .inl ks_tmI)), (am, .inl (cJ, 4, .inl ks_moI)), (al, .inl (cJ, 64, .inl x.1)), (af, .inl (cJ, 4, .inl x.2.1)), (an, .inl (cJ, 4, .inl x.2.2))]) [0, 1, 2, 3, 4, 5, 6, 7] rfl
          have hDc := hD.sub (ws' := [(h, .inr (2, [.ref ac, .ref au, .ref ab, .ref ae, .ref am, .ref ap, .int sz0, .ref ak, .ref al, .ref af, .ref an, .int (nI (n + 1 + i)), .ref ar, .int sm])), (ac, .inl (cJ, 64, .inl ks_k)), (au, .inl (cJ, 16, .inl ks_tt)), (ae, .inl (cJ, 4, .inl ks_tmI)), (am, .inl (cJ, 4, .inl ks_moI)), (al, .inl (cJ, 64, .inl x.1)), (af, .inl (cJ, 4, .inl x.2.1)), (an, .inl (cJ, 4, .inl x.2.2))]) [0, 1, 2, 3, 4, 5, 6, 7] (by decide) rfl
          have hKc := hK.sub (tys' := [(cJ, .int)]) [0] rfl
          have hFc := va_free (wc := [(h, .inr (2, [.ref ac, .ref au, .ref ab, .ref ae, .ref am, .ref ap, .int sz0, .ref ak, .ref al, .ref af, .ref an, .int (nI (n + 1 + i)), .ref ar, .int sm])), (ac, .inl (cJ, 64, .inl ks_k)), (au, .inl (cJ, 16, .inl ks_tt)), (ae, .inl (cJ, 4, .inl ks_tmI)), (am, .inl (cJ, 4, .inl ks_moI)), (al, .inl (cJ, 64, .inl x.1)), (af, .inl (cJ, 4, .inl x.2.1)), (an, .inl (cJ, 4, .inl x.2.2))]) hD hS hA [0, 1, 2, 3, 4, 5, 6, 7] rfl
          refine va_callv (va_runV (As := [.int 0]) (rest := []) ⟨hx, hb, hml, hown, hts⟩ (r_come l dC dI H.size h ac au ab ae am ap ak al af an ar cJ sz0 sm (n + 1 + i) x.1 x.2.1 x.2.2 (ks_pad f n) 0 (by omega) hv (by rw [show ks_pad f n (n + 1 + i) = 0 by unfold ks_pad; rw [if_neg (by omega), if_neg (by omega), if_pos (by omega)]])) (cwV 1 hts gX2_sum_X2_come rfl rfl rfl (by decide +kernel) ⟨Nat.le_of_ble_eq_true rfl, Nat.le_of_ble_eq_true rfl⟩) ⟨fun a U g mk q => by obtain ⟨q0, q1, qP, qK, qD⟩ := q; exact ⟨q0, q1, qP, va_K.moved (u := U) (U := U.calling g mk a) (Vm.Alike.refl U.vm) qK, qD⟩, va_recv hKc hPc (ci := 2) (q0 := 0) rfl rfl, fun U hU hW => ⟨rfl, by rw [hU], by rw [hU]; exact hPc, va_K.moved hW.alike hKc, hDc.weaken (fun _ _ _ _ => trivial)⟩⟩ rfl rfl hl.1 rfl (lv_room (Nat.le_of_ble_eq_true rfl)) dX2_sum_64 ⟨Nat.zero_le _, Nat.zero_le _⟩) hS (fun q _ h => hFc q h) hFc (fun u t H1 locs ht hvm hw hB hz1 hk1 hS => ?_)
          obtain ⟨b2, f2, n2⟩ := u
          obtain ⟨hP1, hK1, hD1⟩ := hB
          rw [ht] at hP1
          have hK1 := va_K.moved hvm.symm hK1
          try dsimp only at hw
          obtain ⟨hP, hD⟩ := va_join (wr := [(ak, .inl (cJ, 16, .inl fk)), (ar, .inl (cJ, 16, .inl rs)), (ab, .inl (cJ, 4, .inl ks_begI))]) (w1 := [(h, .inr (2, [.ref ac, .ref au, .ref ab, .ref ae, .ref am, .ref ap, .int sz0, .ref ak, .ref al, .ref af, .ref an, .int (nI (n + 1 + i + 1)), .ref ar, .int sm])), (ac, .inl (cJ, 64, .inl ks_k)), (au, .inl (cJ, 16, .inl ks_tt)), (ae, .inl (cJ, 4, .inl ks_tmI)), (am, .inl (cJ, 4, .inl ks_moI)), (al, .inl (cJ, 64, .inl b2)), (af, .inl (cJ, 4, .inl f2)), (an, .inl (cJ, 4, .inl n2))]) hP hD [0, 1, 2, 3, 4, 5, 6, 7] [8, 9, 10] rfl rfl (by decide) (by decide) hk1 hFc hP1 hD1
          have hP := hP.sub (ws' := [(h, .inr (2, [.ref ac, .ref au, .ref ab, .ref ae, .ref am, .ref ap, .int sz0, .ref ak, .ref al, .ref af, .ref an, .int (nI (n + 1 + i + 1)), .ref ar, .int sm])), (ac, .inl (cJ, 64, .inl ks_k)), (au, .inl (cJ, 16, .inl ks_tt)), (ae, .inl (cJ, 4, .inl ks_tmI)), (am, .inl (cJ, 4, .inl ks_moI)), (al, .inl (cJ, 64, .inl b2)), (af, .inl (cJ, 4, .inl f2)), (an, .inl (cJ, 4, .inl n2)), (ak, .inl (cJ, 16, .inl fk)), (ar, .inl (cJ, 16, .inl rs)), (ab, .inl (cJ, 4, .inl ks_begI))]) [3, 4, 5, 6, 7, 8, 9, 10, 0, 1, 2] rfl
          have hD := hD.sub (ws' := [(h, .inr (2, [.ref ac, .ref au, .ref ab, .ref ae, .ref am, .ref ap, .int sz0, .ref ak, .ref al, .ref af, .ref an, .int (nI (n + 1 + i + 1)), .ref ar, .int sm])), (ac, .inl (cJ, 64, .inl ks_k)), (au, .inl (cJ, 16, .inl ks_tt)), (ae, .inl (cJ, 4, .inl ks_tmI)), (am, .inl (cJ, 4, .inl ks_moI)), (al, .inl (cJ, 64, .inl b2)), (af, .inl (cJ, 4, .inl f2)), (an, .inl (cJ, 4, .inl n2)), (ak, .inl (cJ, 16, .inl fk)), (ar, .inl (cJ, 16, .inl rs)), (ab, .inl (cJ, 4, .inl ks_begI))]) [3, 4, 5, 6, 7, 8, 9, 10, 0, 1, 2] (by decide) rfl
          generalize H1 = H at hP hS ⊢
          have hP : va_P (dC, dI) vwCl [(h, .inr (2, [.ref ac, .ref au, .ref ab, .ref ae, .ref am, .ref ap, .int sz0, .ref ak, .ref al, .ref af, .ref an, .int (nI (n + 1 + i + 1)), .ref ar, .int sm])), (ac, .inl (cJ, 64, .inl ks_k)), (au, .inl (cJ, 16, .inl ks_tt)), (ae, .inl (cJ, 4, .inl ks_tmI)), (am, .inl (cJ, 4, .inl ks_moI)), (al, .inl (cJ, 64, .inl b2)), (af, .inl (cJ, 4, .inl f2)), (an, .inl (cJ, 4, .inl n2)), (ak, .inl (cJ, 16, .inl fk)), (ar, .inl (cJ, 16, .inl rs)), (ab, .inl (cJ, 4, .inl ks_begI))] H := hP
          have hD : va_D A [(h, .inr (2, [.ref ac, .ref au, .ref ab, .ref ae, .ref am, .ref ap, .int sz0, .ref ak, .ref al, .ref af, .ref an, .int (nI (n + 1 + i + 1)), .ref ar, .int sm])), (ac, .inl (cJ, 64, .inl ks_k)), (au, .inl (cJ, 16, .inl ks_tt)), (ae, .inl (cJ, 4, .inl ks_tmI)), (am, .inl (cJ, 4, .inl ks_moI)), (al, .inl (cJ, 64, .inl b2)), (af, .inl (cJ, 4, .inl f2)), (an, .inl (cJ, 4, .inl n2)), (ak, .inl (cJ, 16, .inl fk)), (ar, .inl (cJ, 16, .inl rs)), (ab, .inl (cJ, 4, .inl ks_begI))] := hD
          refine lv_goto (tgt := 50) hx hb dX2_sum_67 (by decide) ?_
          exact ih (b2, f2, n2) ls H locs ⟨hw, lv_sub hl [0, 1, 2] rfl, hP, hD, hS⟩
      · skip
        intro x ls H locs hI
        obtain ⟨hv, hl, hP, hD, hS⟩ := hI
        rw [show n + 1 + (ks_end n - (n + 1)) = ks_end n by omega] at hv hP hD
        refine lv_aload_n hx hb dX2_sum_50 rfl (lv_at hl 2 rfl) ?_
        refine va_get (D := (dC, dI)) (ci := 2) (v := .int (nI (ks_end n))) (C := RX2) (T := TX2) (N := 14) hx hb hts (by decide +kernel) hown hK hP 0 rfl rfl 11 (by decide) (hts (.fieldLink RX2 114 "KeySumsModel" "many" "I") (by decide +kernel)) (fun _ h9 => h9) rfl dX2_sum_51 ?_
        refine lv_bipush (v := 64) hx hb dX2_sum_54 (by decide) ?_
        refine lv_irem hx hb dX2_sum_56 (by decide) ?_
        refine kz_top (y := nI (ks_end n % 64)) (pk_rem (d := 64) (by omega) (by decide) (by decide)) ?_
        refine lv_bipush (v := 56) hx hb dX2_sum_57 (by decide) ?_
        refine lv_icmp_eq (tgt := 70) hx hb dX2_sum_59 (by decide) (fun hc => ?_) (fun hc => ?_)
        · skip
          refine lv_iconst (v := 0) hx hb dX2_sum_70 (by decide) ?_
          refine kz_top (y := nI 0) nI_0.symm ?_
          refine lv_istore (lv' := [(5, .int (nI 0)), (3, .long (lN (8 * n))), (2, .int (nI n)), (0, .ref h)]) hx hb dX2_sum_71 hl (by decide) rfl (fun ls hl => ?_)
          refine kz_loop (σ := (Nat → Int32) × (Nat → Int32) × (Nat → Int32)) (fun i x ls H locs => rf_inv (ks_pad f n) (ks_end n + i) x.1 x.2.1 ∧ lv_has ls 6 [(5, .int (nI i)), (3, .long (lN (8 * n))), (2, .int (nI n)), (0, .ref h)] ∧ va_P (dC, dI) vwCl [(h, .inr (2, [.ref ac, .ref au, .ref ab, .ref ae, .ref am, .ref ap, .int sz0, .ref ak, .ref al, .ref af, .ref an, .int (nI (ks_end n + i)), .ref ar, .int sm])), (ac, .inl (cJ, 64, .inl ks_k)), (au, .inl (cJ, 16, .inl ks_tt)), (ae, .inl (cJ, 4, .inl ks_tmI)), (am, .inl (cJ, 4, .inl ks_moI)), (al, .inl (cJ, 64, .inl x.1)), (af, .inl (cJ, 4, .inl x.2.1)), (an, .inl (cJ, 4, .inl x.2.2)), (ak, .inl (cJ, 16, .inl fk)), (ar, .inl (cJ, 16, .inl rs)), (ab, .inl (cJ, 4, .inl ks_begI))] H ∧ va_D A [(h, .inr (2, [.ref ac, .ref au, .ref ab, .ref ae, .ref am, .ref ap, .int sz0, .ref ak, .ref al, .ref af, .ref an, .int (nI (ks_end n + i)), .ref ar, .int sm])), (ac, .inl (cJ, 64, .inl ks_k)), (au, .inl (cJ, 16, .inl ks_tt)), (ae, .inl (cJ, 4, .inl ks_tmI)), (am, .inl (cJ, 4, .inl ks_moI)), (al, .inl (cJ, 64, .inl x.1)), (af, .inl (cJ, 4, .inl x.2.1)), (an, .inl (cJ, 4, .inl x.2.2)), (ak, .inl (cJ, 16, .inl fk)), (ar, .inl (cJ, 16, .inl rs)), (ab, .inl (cJ, 4, .inl ks_begI))] ∧ va_S A s.heap H locs) 8 ?_ ?_ 0 x ls _ _ (Nat.zero_le _) ⟨hv, lv_sub hl [0, 1, 2, 3] rfl, hP, hD, hS⟩
          · skip
            intro i x ls H locs hlt hI ih
            obtain ⟨hv, hl, hP, hD, hS⟩ := hI
            refine lv_iload hx hb dX2_sum_73 (lv_at hl 0 rfl) ?_
            refine lv_bipush (v := 8) hx hb dX2_sum_75 (by decide) ?_
            refine lv_icmp_ge (tgt := 102) hx hb dX2_sum_77 (by decide) (fun hc => ?_) (fun hc => ?_)
            · skip
              exact absurd hc (nI_ge (a := i) (b := 8) hlt (by decide))
            · skip
              refine lv_aload_n hx hb dX2_sum_80 rfl (lv_at hl 3 rfl) ?_
              refine lv_lload_n hx hb dX2_sum_81 rfl (lv_at hl 1 rfl) ?_
              refine lv_bipush (v := 8) hx hb dX2_sum_82 (by decide) ?_
              refine lv_iload hx hb dX2_sum_84 (lv_at hl 0 rfl) ?_
              refine lv_imul hx hb dX2_sum_86 ?_
              refine kz_top (y := nI (8 * i)) (pk_mul 8 i) ?_
              refine lv_lshr (v := ks_ssl (lN (8 * n)) (nI (8 * i))) hx hb dX2_sum_87 rfl ?_
              refine lv_l2i (v := (ks_ssl (lN (8 * n)) (nI (8 * i))).toInt32) hx hb dX2_sum_88 rfl ?_
              refine lv_sipush (v := 255) hx hb dX2_sum_89 (by decide) ?_
              refine lv_iand hx hb dX2_sum_92 ?_
              have hPc := hP.sub (ws' := [(h, .inr (2, [.ref ac, .ref au, .ref ab, .ref ae, .ref am, .ref ap, .int sz0, .ref ak, .ref al, .ref af, .ref an, .int (nI (ks_end n + i)), .ref ar, .int sm])), (ac, .inl (cJ, 64, .inl ks_k)), (au, .inl (cJ, 16, .inl ks_tt)), (ae, .inl (cJ, 4, .inl ks_tmI)), (am, .inl (cJ, 4, .inl ks_moI)), (al, .inl (cJ, 64, .inl x.1)), (af, .inl (cJ, 4, .inl x.2.1)), (an, .inl (cJ, 4, .inl x.2.2))]) [0, 1, 2, 3, 4, 5, 6, 7] rfl
              have hDc := hD.sub (ws' := [(h, .inr (2, [.ref ac, .ref au, .ref ab, .ref ae, .ref am, .ref ap, .int sz0, .ref ak, .ref al, .ref af, .ref an, .int (nI (ks_end n + i)), .ref ar, .int sm])), (ac, .inl (cJ, 64, .inl ks_k)), (au, .inl (cJ, 16, .inl ks_tt)), (ae, .inl (cJ, 4, .inl ks_tmI)), (am, .inl (cJ, 4, .inl ks_moI)), (al, .inl (cJ, 64, .inl x.1)), (af, .inl (cJ, 4, .inl x.2.1)), (an, .inl (cJ, 4, .inl x.2.2))]) [0, 1, 2, 3, 4, 5, 6, 7] (by decide) rfl
              have hKc := hK.sub (tys' := [(cJ, .int)]) [0] rfl
              have hFc := va_free (wc := [(h, .inr (2, [.ref ac, .ref au, .ref ab, .ref ae, .ref am, .ref ap, .int sz0, .ref ak, .ref al, .ref af, .ref an, .int (nI (ks_end n + i)), .ref ar, .int sm])), (ac, .inl (cJ, 64, .inl ks_k)), (au, .inl (cJ, 16, .inl ks_tt)), (ae, .inl (cJ, 4, .inl ks_tmI)), (am, .inl (cJ, 4, .inl ks_moI)), (al, .inl (cJ, 64, .inl x.1)), (af, .inl (cJ, 4, .inl x.2.1)), (an, .inl (cJ, 4, .inl x.2.2))]) hD hS hA [0, 1, 2, 3, 4, 5, 6, 7] rfl
              refine va_callv (va_runV (As := [.int (((ks_ssl (lN (8 * n)) (nI (8 * i))).toInt32) &&& 255)]) (rest := []) ⟨hx, hb, hml, hown, hts⟩ (r_come l dC dI H.size h ac au ab ae am ap ak al af an ar cJ sz0 sm (ks_end n + i) x.1 x.2.1 x.2.2 (ks_pad f n) (((ks_ssl (lN (8 * n)) (nI (8 * i))).toInt32) &&& 255) (by omega) hv (rf_len8 f (by omega) hlt)) (cwV 1 hts gX2_sum_X2_come rfl rfl rfl (by decide +kernel) ⟨Nat.le_of_ble_eq_true rfl, Nat.le_of_ble_eq_true rfl⟩) ⟨fun a U g mk q => by obtain ⟨q0, q1, qP, qK, qD⟩ := q; exact ⟨q0, q1, qP, va_K.moved (u := U) (U := U.calling g mk a) (Vm.Alike.refl U.vm) qK, qD⟩, va_recv hKc hPc (ci := 2) (q0 := 0) rfl rfl, fun U hU hW => ⟨rfl, by rw [hU], by rw [hU]; exact hPc, va_K.moved hW.alike hKc, hDc.weaken (fun _ _ _ _ => trivial)⟩⟩ rfl rfl hl.1 rfl (lv_room (Nat.le_of_ble_eq_true rfl)) dX2_sum_93 ⟨Nat.zero_le _, Nat.zero_le _⟩) hS (fun q _ h => hFc q h) hFc (fun u t H1 locs ht hvm hw hB hz1 hk1 hS => ?_)
              obtain ⟨b2, f2, n2⟩ := u
              obtain ⟨hP1, hK1, hD1⟩ := hB
              rw [ht] at hP1
              have hK1 := va_K.moved hvm.symm hK1
              try dsimp only at hw
              obtain ⟨hP, hD⟩ := va_join (wr := [(ak, .inl (cJ, 16, .inl fk)), (ar, .inl (cJ, 16, .inl rs)), (ab, .inl (cJ, 4, .inl ks_begI))]) (w1 := [(h, .inr (2, [.ref ac, .ref au, .ref ab, .ref ae, .ref am, .ref ap, .int sz0, .ref ak, .ref al, .ref af, .ref an, .int (nI (ks_end n + i + 1)), .ref ar, .int sm])), (ac, .inl (cJ, 64, .inl ks_k)), (au, .inl (cJ, 16, .inl ks_tt)), (ae, .inl (cJ, 4, .inl ks_tmI)), (am, .inl (cJ, 4, .inl ks_moI)), (al, .inl (cJ, 64, .inl b2)), (af, .inl (cJ, 4, .inl f2)), (an, .inl (cJ, 4, .inl n2))]) hP hD [0, 1, 2, 3, 4, 5, 6, 7] [8, 9, 10] rfl rfl (by decide) (by decide) hk1 hFc hP1 hD1
              have hP := hP.sub (ws' := [(h, .inr (2, [.ref ac, .ref au, .ref ab, .ref ae, .ref am, .ref ap, .int sz0, .ref ak, .ref al, .ref af, .ref an, .int (nI (ks_end n + i + 1)), .ref ar, .int sm])), (ac, .inl (cJ, 64, .inl ks_k)), (au, .inl (cJ, 16, .inl ks_tt)), (ae, .inl (cJ, 4, .inl ks_tmI)), (am, .inl (cJ, 4, .inl ks_moI)), (al, .inl (cJ, 64, .inl b2)), (af, .inl (cJ, 4, .inl f2)), (an, .inl (cJ, 4, .inl n2)), (ak, .inl (cJ, 16, .inl fk)), (ar, .inl (cJ, 16, .inl rs)), (ab, .inl (cJ, 4, .inl ks_begI))]) [3, 4, 5, 6, 7, 8, 9, 10, 0, 1, 2] rfl
              have hD := hD.sub (ws' := [(h, .inr (2, [.ref ac, .ref au, .ref ab, .ref ae, .ref am, .ref ap, .int sz0, .ref ak, .ref al, .ref af, .ref an, .int (nI (ks_end n + i + 1)), .ref ar, .int sm])), (ac, .inl (cJ, 64, .inl ks_k)), (au, .inl (cJ, 16, .inl ks_tt)), (ae, .inl (cJ, 4, .inl ks_tmI)), (am, .inl (cJ, 4, .inl ks_moI)), (al, .inl (cJ, 64, .inl b2)), (af, .inl (cJ, 4, .inl f2)), (an, .inl (cJ, 4, .inl n2)), (ak, .inl (cJ, 16, .inl fk)), (ar, .inl (cJ, 16, .inl rs)), (ab, .inl (cJ, 4, .inl ks_begI))]) [3, 4, 5, 6, 7, 8, 9, 10, 0, 1, 2] (by decide) rfl
              generalize H1 = H at hP hS ⊢
              have hP : va_P (dC, dI) vwCl [(h, .inr (2, [.ref ac, .ref au, .ref ab, .ref ae, .ref am, .ref ap, .int sz0, .ref ak, .ref al, .ref af, .ref an, .int (nI (ks_end n + i + 1)), .ref ar, .int sm])), (ac, .inl (cJ, 64, .inl ks_k)), (au, .inl (cJ, 16, .inl ks_tt)), (ae, .inl (cJ, 4, .inl ks_tmI)), (am, .inl (cJ, 4, .inl ks_moI)), (al, .inl (cJ, 64, .inl b2)), (af, .inl (cJ, 4, .inl f2)), (an, .inl (cJ, 4, .inl n2)), (ak, .inl (cJ, 16, .inl fk)), (ar, .inl (cJ, 16, .inl rs)), (ab, .inl (cJ, 4, .inl ks_begI))] H := hP
              have hD : va_D A [(h, .inr (2, [.ref ac, .ref au, .ref ab, .ref ae, .ref am, .ref ap, .int sz0, .ref ak, .ref al, .ref af, .ref an, .int (nI (ks_end n + i + 1)), .ref ar, .int sm])), (ac, .inl (cJ, 64, .inl ks_k)), (au, .inl (cJ, 16, .inl ks_tt)), (ae, .inl (cJ, 4, .inl ks_tmI)), (am, .inl (cJ, 4, .inl ks_moI)), (al, .inl (cJ, 64, .inl b2)), (af, .inl (cJ, 4, .inl f2)), (an, .inl (cJ, 4, .inl n2)), (ak, .inl (cJ, 16, .inl fk)), (ar, .inl (cJ, 16, .inl rs)), (ab, .inl (cJ, 4, .inl ks_begI))] := hD
              refine lv_iinc (v := nI (i + 1)) (lv' := [(5, .int (nI (i + 1))), (3, .long (lN (8 * n))), (2, .int (nI n)), (0, .ref h)]) hx hb dX2_sum_96 hl (k := 0) rfl (nI_1 i) (by decide) rfl (fun ls hl => ?_)
              refine lv_goto (tgt := 73) hx hb dX2_sum_99 (by decide) ?_
              exact ih (b2, f2, n2) ls H locs ⟨hw, lv_sub hl [0, 1, 2, 3] rfl, hP, hD, hS⟩
          · skip
            intro x ls H locs hI
            obtain ⟨hv, hl, hP, hD, hS⟩ := hI
            refine lv_iload hx hb dX2_sum_73 (lv_at hl 0 rfl) ?_
            refine lv_bipush (v := 8) hx hb dX2_sum_75 (by decide) ?_
            refine lv_icmp_ge (tgt := 102) hx hb dX2_sum_77 (by decide) (fun hc => ?_) (fun hc => ?_)
            · skip
              have hq : ks_4 x.2.1 = ks_sum f n := by
                rw [hv.1, show (ks_end n + 8) / 64 = (n + 8) / 64 + 1 by unfold ks_end; omega]
                rfl
              refine lv_iconst (v := 0) hx hb dX2_sum_102 (by decide) ?_
              refine kz_top (y := nI 0) nI_0.symm ?_
              refine lv_istore (lv' := [(5, .int (nI 0)), (3, .long (lN (8 * n))), (2, .int (nI n)), (0, .ref h)]) hx hb dX2_sum_103 hl (by decide) rfl (fun ls hl => ?_)
              refine kz_loop (σ := Nat → Int32) (fun i y2 ls H locs => (∀ j, j < i → y2 j = (x.2.1 (j / 4) >>> (nI (8 * (j % 4)) &&& 31)) &&& 255) ∧ lv_has ls 6 [(5, .int (nI i)), (2, .int (nI n)), (0, .ref h)] ∧ va_P (dC, dI) vwCl [(h, .inr (2, [.ref ac, .ref au, .ref ab, .ref ae, .ref am, .ref ap, .int sz0, .ref ak, .ref al, .ref af, .ref an, .int (nI (ks_end n + 8)), .ref ar, .int sm])), (ac, .inl (cJ, 64, .inl ks_k)), (au, .inl (cJ, 16, .inl ks_tt)), (ae, .inl (cJ, 4, .inl ks_tmI)), (am, .inl (cJ, 4, .inl ks_moI)), (al, .inl (cJ, 64, .inl x.1)), (af, .inl (cJ, 4, .inl x.2.1)), (an, .inl (cJ, 4, .inl x.2.2)), (ak, .inl (cJ, 16, .inl fk)), (ar, .inl (cJ, 16, .inl y2)), (ab, .inl (cJ, 4, .inl ks_begI))] H ∧ va_D A [(h, .inr (2, [.ref ac, .ref au, .ref ab, .ref ae, .ref am, .ref ap, .int sz0, .ref ak, .ref al, .ref af, .ref an, .int (nI (ks_end n + 8)), .ref ar, .int sm])), (ac, .inl (cJ, 64, .inl ks_k)), (au, .inl (cJ, 16, .inl ks_tt)), (ae, .inl (cJ, 4, .inl ks_tmI)), (am, .inl (cJ, 4, .inl ks_moI)), (al, .inl (cJ, 64, .inl x.1)), (af, .inl (cJ, 4, .inl x.2.1)), (an, .inl (cJ, 4, .inl x.2.2)), (ak, .inl (cJ, 16, .inl fk)), (ar, .inl (cJ, 16, .inl y2)), (ab, .inl (cJ, 4, .inl ks_begI))] ∧ va_S A s.heap H locs) 16 ?_ ?_ 0 rs ls _ _ (Nat.zero_le _) ⟨fun j hj => absurd hj (Nat.not_lt_zero j), lv_sub hl [0, 2, 3] rfl, hP, hD, hS⟩
              · skip
                intro i y2 ls H locs hlt hI ih
                obtain ⟨hv2, hl, hP, hD, hS⟩ := hI
                refine lv_iload hx hb dX2_sum_105 (lv_at hl 0 rfl) ?_
                refine lv_bipush (v := 16) hx hb dX2_sum_107 (by decide) ?_
                refine lv_icmp_ge (tgt := 146) hx hb dX2_sum_109 (by decide) (fun hc => ?_) (fun hc => ?_)
                · skip
                  exact absurd hc (nI_ge (a := i) (b := 16) hlt (by decide))
                · skip
                  refine lv_aload_n hx hb dX2_sum_112 rfl (lv_at hl 2 rfl) ?_
                  refine va_get (D := (dC, dI)) (ci := 2) (v := .ref ar) (C := RX2) (T := TX2) (N := 14) hx hb hts (by decide +kernel) hown hK hP 0 rfl rfl 12 (by decide) (hts (.fieldLink RX2 108 "KeySumsModel" "result" "[I") (by decide +kernel)) (fun _ h9 => h9) rfl dX2_sum_113 ?_
                  refine lv_iload hx hb dX2_sum_116 (lv_at hl 0 rfl) ?_
                  refine lv_aload_n hx hb dX2_sum_118 rfl (lv_at hl 2 rfl) ?_
                  refine va_get (D := (dC, dI)) (ci := 2) (v := .ref af) (C := RX2) (T := TX2) (N := 14) hx hb hts (by decide +kernel) hown hK hP 0 rfl rfl 9 (by decide) (hts (.fieldLink RX2 102 "KeySumsModel" "four" "[I") (by decide +kernel)) (fun _ h9 => h9) rfl dX2_sum_119 ?_
                  refine lv_iload hx hb dX2_sum_122 (lv_at hl 0 rfl) ?_
                  refine lv_iconst (v := 4) hx hb dX2_sum_124 (by decide) ?_
                  refine lv_idiv hx hb dX2_sum_125 (by decide) ?_
                  refine kz_top (y := nI (i / 4)) (pk_div (d := 4) (by omega) (by decide) (by decide)) ?_
                  refine kz_iald (j := (i / 4)) hx hb hK hP 6 0 rfl rfl (show i / 4 < 4 by omega) (by decide) dX2_sum_126 ?_
                  refine lv_bipush (v := 8) hx hb dX2_sum_127 (by decide) ?_
                  refine lv_iload hx hb dX2_sum_129 (lv_at hl 0 rfl) ?_
                  refine lv_iconst (v := 4) hx hb dX2_sum_131 (by decide) ?_
                  refine lv_irem hx hb dX2_sum_132 (by decide) ?_
                  refine kz_top (y := nI (i % 4)) (pk_rem (d := 4) (by omega) (by decide) (by decide)) ?_
                  refine lv_imul hx hb dX2_sum_133 ?_
                  refine kz_top (y := nI (8 * (i % 4))) (pk_mul 8 (i % 4)) ?_
                  refine lv_ishr hx hb dX2_sum_134 ?_
                  refine lv_sipush (v := 255) hx hb dX2_sum_135 (by decide) ?_
                  refine lv_iand hx hb dX2_sum_138 ?_
                  refine kz_iast (j := i) hx hb hK hP hD hS 9 0 rfl rfl (hlt) (by decide) dX2_sum_139 (fun H locs hP hD hS => ?_)
                  have hP : va_P (dC, dI) vwCl [(h, .inr (2, [.ref ac, .ref au, .ref ab, .ref ae, .ref am, .ref ap, .int sz0, .ref ak, .ref al, .ref af, .ref an, .int (nI (ks_end n + 8)), .ref ar, .int sm])), (ac, .inl (cJ, 64, .inl ks_k)), (au, .inl (cJ, 16, .inl ks_tt)), (ae, .inl (cJ, 4, .inl ks_tmI)), (am, .inl (cJ, 4, .inl ks_moI)), (al, .inl (cJ, 64, .inl x.1)), (af, .inl (cJ, 4, .inl x.2.1)), (an, .inl (cJ, 4, .inl x.2.2)), (ak, .inl (cJ, 16, .inl fk)), (ar, .inl (cJ, 16, .inl (upd y2 i (((x.2.1 (i / 4)) >>> ((nI (8 * (i % 4))) &&& 31)) &&& 255)))), (ab, .inl (cJ, 4, .inl ks_begI))] H := hP
                  have hD : va_D A [(h, .inr (2, [.ref ac, .ref au, .ref ab, .ref ae, .ref am, .ref ap, .int sz0, .ref ak, .ref al, .ref af, .ref an, .int (nI (ks_end n + 8)), .ref ar, .int sm])), (ac, .inl (cJ, 64, .inl ks_k)), (au, .inl (cJ, 16, .inl ks_tt)), (ae, .inl (cJ, 4, .inl ks_tmI)), (am, .inl (cJ, 4, .inl ks_moI)), (al, .inl (cJ, 64, .inl x.1)), (af, .inl (cJ, 4, .inl x.2.1)), (an, .inl (cJ, 4, .inl x.2.2)), (ak, .inl (cJ, 16, .inl fk)), (ar, .inl (cJ, 16, .inl (upd y2 i (((x.2.1 (i / 4)) >>> ((nI (8 * (i % 4))) &&& 31)) &&& 255)))), (ab, .inl (cJ, 4, .inl ks_begI))] := hD
                  refine lv_iinc (v := nI (i + 1)) (lv' := [(5, .int (nI (i + 1))), (2, .int (nI n)), (0, .ref h)]) hx hb dX2_sum_140 hl (k := 0) rfl (nI_1 i) (by decide) rfl (fun ls hl => ?_)
                  refine lv_goto (tgt := 105) hx hb dX2_sum_143 (by decide) ?_
                  refine ih _ ls H locs ⟨?_, lv_sub hl [0, 1, 2] rfl, hP, hD, hS⟩
                  intro j hj
                  by_cases q : j = i
                  · subst q; rw [pk_us]
                  · rw [pk_un q]; exact hv2 j (by omega)
              · skip
                intro y2 ls H locs hI
                obtain ⟨hv2, hl, hP, hD, hS⟩ := hI
                refine lv_iload hx hb dX2_sum_105 (lv_at hl 0 rfl) ?_
                refine lv_bipush (v := 16) hx hb dX2_sum_107 (by decide) ?_
                refine lv_icmp_ge (tgt := 146) hx hb dX2_sum_109 (by decide) (fun hc => ?_) (fun hc => ?_)
                · skip
                  refine lv_aload_n hx hb dX2_sum_146 rfl (lv_at hl 2 rfl) ?_
                  refine lv_iconst (v := 1) hx hb dX2_sum_147 (by decide) ?_
                  refine va_put (D := (dC, dI)) (ci := 2) (v := .int 1) (ty := .boolean) (C := RX2) (T := TX2) (N := 14) hx hb hts (by decide +kernel) tyX2 tyX2_ok nmX2 hown hK hP hD hS 0 rfl rfl 13 (by decide) (hts (.fieldLink RX2 140 "KeySumsModel" "isSummed" "Z") (by decide +kernel)) (fun _ h9 => h9) rfl (by decide +kernel) rfl rfl (Nat.le_of_ble_eq_true rfl) dX2_sum_148 (fun H locs hP hD hS => ?_)
                  have hP : va_P (dC, dI) vwCl [(h, .inr (2, [.ref ac, .ref au, .ref ab, .ref ae, .ref am, .ref ap, .int sz0, .ref ak, .ref al, .ref af, .ref an, .int (nI (ks_end n + 8)), .ref ar, .int 1])), (ac, .inl (cJ, 64, .inl ks_k)), (au, .inl (cJ, 16, .inl ks_tt)), (ae, .inl (cJ, 4, .inl ks_tmI)), (am, .inl (cJ, 4, .inl ks_moI)), (al, .inl (cJ, 64, .inl x.1)), (af, .inl (cJ, 4, .inl x.2.1)), (an, .inl (cJ, 4, .inl x.2.2)), (ak, .inl (cJ, 16, .inl fk)), (ar, .inl (cJ, 16, .inl y2)), (ab, .inl (cJ, 4, .inl ks_begI))] H := hP
                  have hD : va_D A [(h, .inr (2, [.ref ac, .ref au, .ref ab, .ref ae, .ref am, .ref ap, .int sz0, .ref ak, .ref al, .ref af, .ref an, .int (nI (ks_end n + 8)), .ref ar, .int 1])), (ac, .inl (cJ, 64, .inl ks_k)), (au, .inl (cJ, 16, .inl ks_tt)), (ae, .inl (cJ, 4, .inl ks_tmI)), (am, .inl (cJ, 4, .inl ks_moI)), (al, .inl (cJ, 64, .inl x.1)), (af, .inl (cJ, 4, .inl x.2.1)), (an, .inl (cJ, 4, .inl x.2.2)), (ak, .inl (cJ, 16, .inl fk)), (ar, .inl (cJ, 16, .inl y2)), (ab, .inl (cJ, 4, .inl ks_begI))] := hD
                  refine lv_aload_n hx hb dX2_sum_151 rfl (lv_at hl 2 rfl) ?_
                  have hPc := hP.sub (ws' := [(h, .inr (2, [.ref ac, .ref au, .ref ab, .ref ae, .ref am, .ref ap, .int sz0, .ref ak, .ref al, .ref af, .ref an, .int (nI (ks_end n + 8)), .ref ar, .int 1])), (ab, .inl (cJ, 4, .inl ks_begI)), (af, .inl (cJ, 4, .inl x.2.1))]) [0, 10, 6] rfl
                  have hDc := hD.sub (ws' := [(h, .inr (2, [.ref ac, .ref au, .ref ab, .ref ae, .ref am, .ref ap, .int sz0, .ref ak, .ref al, .ref af, .ref an, .int (nI (ks_end n + 8)), .ref ar, .int 1])), (ab, .inl (cJ, 4, .inl ks_begI)), (af, .inl (cJ, 4, .inl x.2.1))]) [0, 10, 6] (by decide) rfl
                  have hKc := hK.sub (tys' := [(cJ, .int)]) [0] rfl
                  have hFc := va_free (wc := [(h, .inr (2, [.ref ac, .ref au, .ref ab, .ref ae, .ref am, .ref ap, .int sz0, .ref ak, .ref al, .ref af, .ref an, .int (nI (ks_end n + 8)), .ref ar, .int 1])), (ab, .inl (cJ, 4, .inl ks_begI)), (af, .inl (cJ, 4, .inl x.2.1))]) hD hS hA [0, 10, 6] rfl
                  refine va_callv (va_runV (As := []) (rest := []) ⟨hx, hb, hml, hown, hts⟩ (r_anew l dC dI H.size h ac au ab ae am ap ak al af an ar cJ sz0 (nI (ks_end n + 8)) 1 ks_begI x.2.1) (cwV 0 hts gX2_sum_X2_anew rfl rfl rfl (by decide +kernel) ⟨Nat.le_of_ble_eq_true rfl, Nat.le_of_ble_eq_true rfl⟩) ⟨fun a U g mk q => by obtain ⟨q0, q1, qP, qK, qD⟩ := q; exact ⟨q0, q1, qP, va_K.moved (u := U) (U := U.calling g mk a) (Vm.Alike.refl U.vm) qK, qD⟩, va_recv hKc hPc (ci := 2) (q0 := 0) rfl rfl, fun U hU hW => ⟨rfl, by rw [hU], by rw [hU]; exact hPc, va_K.moved hW.alike hKc, hDc.weaken (fun _ _ _ _ => trivial)⟩⟩ rfl rfl hl.1 rfl (lv_room (Nat.le_of_ble_eq_true rfl)) dX2_sum_152 ⟨Nat.zero_le _, Nat.zero_le _⟩) hS (fun q _ h => hFc q h) hFc (fun u t H1 locs ht hvm hw hB hz1 hk1 hS => ?_)
                  obtain ⟨hP1, hK1, hD1⟩ := hB
                  rw [ht] at hP1
                  have hK1 := va_K.moved hvm.symm hK1
                  try dsimp only at hw
                  obtain ⟨hP, hD⟩ := va_join (wr := [(ac, .inl (cJ, 64, .inl ks_k)), (au, .inl (cJ, 16, .inl ks_tt)), (ae, .inl (cJ, 4, .inl ks_tmI)), (am, .inl (cJ, 4, .inl ks_moI)), (al, .inl (cJ, 64, .inl x.1)), (an, .inl (cJ, 4, .inl x.2.2)), (ak, .inl (cJ, 16, .inl fk)), (ar, .inl (cJ, 16, .inl y2))]) (w1 := [(h, .inr (2, [.ref ac, .ref au, .ref ab, .ref ae, .ref am, .ref ap, .int sz0, .ref ak, .ref al, .ref af, .ref an, .int (nI 0), .ref ar, .int 1])), (ab, .inl (cJ, 4, .inl ks_begI)), (af, .inl (cJ, 4, .inl u))]) hP hD [0, 10, 6] [1, 2, 3, 4, 5, 7, 8, 9] rfl rfl (by decide) (by decide) hk1 hFc hP1 hD1
                  have hP := hP.sub (ws' := [(h, .inr (2, [.ref ac, .ref au, .ref ab, .ref ae, .ref am, .ref ap, .int sz0, .ref ak, .ref al, .ref af, .ref an, .int (nI 0), .ref ar, .int 1])), (ac, .inl (cJ, 64, .inl ks_k)), (au, .inl (cJ, 16, .inl ks_tt)), (ae, .inl (cJ, 4, .inl ks_tmI)), (am, .inl (cJ, 4, .inl ks_moI)), (al, .inl (cJ, 64, .inl x.1)), (af, .inl (cJ, 4, .inl u)), (an, .inl (cJ, 4, .inl x.2.2)), (ak, .inl (cJ, 16, .inl fk)), (ar, .inl (cJ, 16, .inl y2)), (ab, .inl (cJ, 4, .inl ks_begI))]) [8, 0, 1, 2, 3, 4, 10, 5, 6, 7, 9] rfl
                  have hD := hD.sub (ws' := [(h, .inr (2, [.ref ac, .ref au, .ref ab, .ref ae, .ref am, .ref ap, .int sz0, .ref ak, .ref al, .ref af, .ref an, .int (nI 0), .ref ar, .int 1])), (ac, .inl (cJ, 64, .inl ks_k)), (au, .inl (cJ, 16, .inl ks_tt)), (ae, .inl (cJ, 4, .inl ks_tmI)), (am, .inl (cJ, 4, .inl ks_moI)), (al, .inl (cJ, 64, .inl x.1)), (af, .inl (cJ, 4, .inl u)), (an, .inl (cJ, 4, .inl x.2.2)), (ak, .inl (cJ, 16, .inl fk)), (ar, .inl (cJ, 16, .inl y2)), (ab, .inl (cJ, 4, .inl ks_begI))]) [8, 0, 1, 2, 3, 4, 10, 5, 6, 7, 9] (by decide) rfl
                  generalize H1 = H at hP hS ⊢
                  have hP : va_P (dC, dI) vwCl [(h, .inr (2, [.ref ac, .ref au, .ref ab, .ref ae, .ref am, .ref ap, .int sz0, .ref ak, .ref al, .ref af, .ref an, .int (nI 0), .ref ar, .int 1])), (ac, .inl (cJ, 64, .inl ks_k)), (au, .inl (cJ, 16, .inl ks_tt)), (ae, .inl (cJ, 4, .inl ks_tmI)), (am, .inl (cJ, 4, .inl ks_moI)), (al, .inl (cJ, 64, .inl x.1)), (af, .inl (cJ, 4, .inl u)), (an, .inl (cJ, 4, .inl x.2.2)), (ak, .inl (cJ, 16, .inl fk)), (ar, .inl (cJ, 16, .inl y2)), (ab, .inl (cJ, 4, .inl ks_begI))] H := hP
                  have hD : va_D A [(h, .inr (2, [.ref ac, .ref au, .ref ab, .ref ae, .ref am, .ref ap, .int sz0, .ref ak, .ref al, .ref af, .ref an, .int (nI 0), .ref ar, .int 1])), (ac, .inl (cJ, 64, .inl ks_k)), (au, .inl (cJ, 16, .inl ks_tt)), (ae, .inl (cJ, 4, .inl ks_tmI)), (am, .inl (cJ, 4, .inl ks_moI)), (al, .inl (cJ, 64, .inl x.1)), (af, .inl (cJ, 4, .inl u)), (an, .inl (cJ, 4, .inl x.2.2)), (ak, .inl (cJ, 16, .inl fk)), (ar, .inl (cJ, 16, .inl y2)), (ab, .inl (cJ, 4, .inl ks_begI))] := hD
                  refine lv_iload_n hx hb dX2_sum_155 rfl (lv_at hl 1 rfl) ?_
                  have hP9 := hP.sub (ws' := [(h, .inr (2, [.ref ac, .ref au, .ref ab, .ref ae, .ref am, .ref ap, .int sz0, .ref ak, .ref al, .ref af, .ref an, .int (nI 0), .ref ar, .int 1])), (ac, .inl (cJ, 64, .inl ks_k)), (au, .inl (cJ, 16, .inl ks_tt)), (ae, .inl (cJ, 4, .inl ks_tmI)), (am, .inl (cJ, 4, .inl ks_moI)), (al, .inl (cJ, 64, .inl x.1)), (af, .inl (cJ, 4, .inl u)), (an, .inl (cJ, 4, .inl x.2.2)), (ak, .inl (cJ, 16, .inl fk)), (ar, .inl (cJ, 16, .inl y2)), (ab, .inl (cJ, 4, .inl ks_begI))]) [0, 1, 2, 3, 4, 5, 6, 7, 8, 9, 10] rfl
                  have hD9 := hD.sub (ws' := [(h, .inr (2, [.ref ac, .ref au, .ref ab, .ref ae, .ref am, .ref ap, .int sz0, .ref ak, .ref al, .ref af, .ref an, .int (nI 0), .ref ar, .int 1])), (ac, .inl (cJ, 64, .inl ks_k)), (au, .inl (cJ, 16, .inl ks_tt)), (ae, .inl (cJ, 4, .inl ks_tmI)), (am, .inl (cJ, 4, .inl ks_moI)), (al, .inl (cJ, 64, .inl x.1)), (af, .inl (cJ, 4, .inl u)), (an, .inl (cJ, 4, .inl x.2.2)), (ak, .inl (cJ, 16, .inl fk)), (ar, .inl (cJ, 16, .inl y2)), (ab, .inl (cJ, 4, .inl ks_begI))]) [0, 1, 2, 3, 4, 5, 6, 7, 8, 9, 10] (by decide) rfl
                  have hK9 := hK.sub (tys' := [(cJ, .int)]) [0] rfl
                  exact W.iret (v := (nI n)) hx hb hr (fun t ht hW => ⟨⟨(nI n), (x.1, u, x.2.2, y2), rfl, ⟨rfl, hw, x.2.1, hq, hv2⟩, by rw [ht]; exact hP9, va_K.moved hW.alike hK9, hD9⟩, hS.F ht⟩) hS.2.2 dX2_sum_156
                · skip
                  exact absurd (nI_le (a := 16) (b := 16) (Nat.le_refl _) (by decide)) hc
            · skip
              exact absurd (nI_le (a := 8) (b := 8) (Nat.le_refl _) (by decide)) hc
        · skip
          exact absurd ((nI_eq (a := ks_end n % 64) (b := 56) (by omega) (by decide)).mpr (by unfold ks_end; omega)) hc
    · skip
      exact absurd hz hc
end
section
set_option maxHeartbeats 4000000 in
set_option maxRecDepth 100000 in
/-- KeySumsModel() -/
theorem r_init (l : Launch) (dC : Nat → ClassId) (dI : Nat → Nat → Nat) (sz : Nat) (h : Nat) : Met l yX2_init wsX2_init ({ frames := 1, cells := 11, slots := 2196, locals := 40 }) (va_Pc [.ref h] (fun U => U.heap.size = sz ∧ va_P (dC, dI) vwCl [(h, .inr (2, [.null, .null, .null, .null, .null, .null, .int 0, .null, .null, .null, .null, .int 0, .null, .int 0]))] U.heap ∧ va_K (dC, dI) vwCl [] U ∧ va_D (fun _ => True) [(h, .inr (2, [.null, .null, .null, .null, .null, .null, .int 0, .null, .null, .null, .null, .int 0, .null, .int 0]))])) (va_Qv (fun u : Nat → Int32 => ∀ j, j < 4 → u j = ks_begI j) (fun (u : Nat → Int32) t => ∃ (ac au ab ae am ap ak al af an ar : Nat) (cJ : ClassId), kz_B dC dI [(cJ, .int)] (va_A [(h, .inr (2, [.null, .null, .null, .null, .null, .null, .int 0, .null, .null, .null, .null, .int 0, .null, .int 0]))] sz) [(h, .inr (2, [.ref ac, .ref au, .ref ab, .ref ae, .ref am, .ref ap, .int 0, .ref ak, .ref al, .ref af, .ref an, .int (nI 0), .ref ar, .int 0])), (ac, .inl (cJ, 64, .inl ks_k)), (au, .inl (cJ, 16, .inl ks_tt)), (ab, .inl (cJ, 4, .inl ks_begI)), (ae, .inl (cJ, 4, .inl ks_tmI)), (am, .inl (cJ, 4, .inl ks_moI)), (ap, .inl (cJ, 2000, .inl (fun _ => 0))), (ak, .inl (cJ, 16, .inl (fun _ => 0))), (al, .inl (cJ, 64, .inl (fun _ => 0))), (af, .inl (cJ, 4, .inl u)), (an, .inl (cJ, 4, .inl (fun _ => 0))), (ar, .inl (cJ, 16, .inl (fun _ => 0)))] t) (va_A [(h, .inr (2, [.null, .null, .null, .null, .null, .null, .int 0, .null, .null, .null, .null, .int 0, .null, .int 0]))] sz)) 11 2196 (va_A [(h, .inr (2, [.null, .null, .null, .null, .null, .null, .int 0, .null, .null, .null, .null, .int 0, .null, .int 0]))] sz) := by
  refine Met.ofW (cc := cX2_init) (maxL := 1) (ret := none) (by decide) rfl ?_
  intro p e s m args below meth c s₁ B hml hv
  obtain ⟨rfl, hsz, hP, hK, hD0⟩ := hv
  have hx := B.exec
  have hb := B.bytes
  have hr := B.returns
  have hts := atoms_spec (ws := wsX2_init) B.pre
  have hown : s.vm.findClass RX2 = some m.cls := findClass_of_methodNamed B.named
  have hlocks := B.notSynchronized
  have hin : meth.name = "<init>" := (name_of_methodNamed B.named B.method).1
  subst hsz
  have hD := hD0.self (sz := s.heap.size)
  generalize hAe : va_A [(h, .inr (2, [.null, .null, .null, .null, .null, .null, .int 0, .null, .null, .null, .null, .int 0, .null, .int 0]))] s.heap.size = A at hD  ⊢
  have hA : ∀ q : Nat, s.heap.size ≤ q → A q := fun q h => by rw [← hAe]; exact Or.inr h
  have hS : va_S A s.heap s.heap [] := va_S.rf
  have hP : va_P (dC, dI) vwCl [(h, .inr (2, [.null, .null, .null, .null, .null, .null, .int 0, .null, .null, .null, .null, .int 0, .null, .int 0]))] s.heap := hP
  have hl := lv_entry ([.ref h]) (n := 1) (Nat.le_of_ble_eq_true rfl)
  rw [lg_entry_eq]
  generalize (lg_sl ([.ref h]) ++ List.replicate (1 - (lg_sl ([.ref h])).length) Slot.unset).toArray = ls at hl ⊢
  have hl : lv_has ls 1 [(0, .ref h)] := hl
  refine lv_aload_n hx hb dX2_init_0 rfl (lv_at hl 0 rfl) ?_
  refine W.objInit hx hb hown (hts (.methodLink RX2 1 objectInit) (by decide +kernel)) (hts (.instanceMethod objectInit) (by decide +kernel)) (hts _ (List.mem_cons_of_mem _ (List.mem_append_left _ (List.mem_append_left _ (List.mem_append_left _ (List.mem_append_left _ (List.mem_of_getElem? (i := 2) rfl))))))) rfl (by rw [hml]; exact hl.1) rfl dX2_init_1 (Nat.le_of_ble_eq_true rfl) (Nat.le_of_ble_eq_true rfl) ?_
  refine W.eq (g2 := F0 m 4 ls []) rfl ?_
  refine lv_aload_n hx hb dX2_init_4 rfl (lv_at hl 0 rfl) ?_
  refine lv_bipush (v := 64) hx hb dX2_init_5 (by decide) ?_
  refine va_newa (atype := .int) (ty := .int) (N' := 64) (a0 := (64, .inl (ks_up ks_k 0))) hx hb (hts (.arrayClass .int) (by decide +kernel)) rfl hK hP hD hS hA (fun cA => by rw [ks_up_0]; rfl) (by decide +kernel) (by decide +kernel) (by decide +kernel) (Nat.le_of_ble_eq_true rfl) (Nat.le_of_ble_eq_true rfl) dX2_init_7 (fun ac cJ H hK hP hD hS => ?_)
  have hP : va_P (dC, dI) vwCl [(h, .inr (2, [.null, .null, .null, .null, .null, .null, .int 0, .null, .null, .null, .null, .int 0, .null, .int 0])), (ac, .inl (cJ, 64, .inl (ks_up ks_k 0)))] H := hP
  have hD : va_D A [(h, .inr (2, [.null, .null, .null, .null, .null, .null, .int 0, .null, .null, .null, .null, .int 0, .null, .int 0])), (ac, .inl (cJ, 64, .inl (ks_up ks_k 0)))] := hD
  have hK : va_K (dC, dI) vwCl [(cJ, .int)] s := hK
  refine W.widen (k := 1) (n := 64) (Nat.le_of_ble_eq_true rfl) (Nat.le_of_ble_eq_true rfl) ?_
  refine lv_dup hx hb dX2_init_9 rfl ?_
  refine lv_iconst (v := 0) hx hb dX2_init_10 (by decide) ?_
  refine kz_top (y := nI 0) (by decide) ?_
  refine lv_ldc (v := (-680876936)) hx hb hown (hts (.constant RX2 7 (-680876936)) (by decide +kernel)) dX2_init_11 ?_
  refine kz_astK (j := 0) (T := ks_k) hx hb hK hP hD hS 1 0 rfl rfl (by decide) (by decide) (by decide +kernel) dX2_init_13 (fun H locs hP hD hS => ?_)
  have hP : va_P (dC, dI) vwCl [(h, .inr (2, [.null, .null, .null, .null, .null, .null, .int 0, .null, .null, .null, .null, .int 0, .null, .int 0])), (ac, .inl (cJ, 64, .inl (ks_up ks_k 1)))] H := hP
  have hD : va_D A [(h, .inr (2, [.null, .null, .null, .null, .null, .null, .int 0, .null, .null, .null, .null, .int 0, .null, .int 0])), (ac, .inl (cJ, 64, .inl (ks_up ks_k 1)))] := hD
  refine lv_dup hx hb dX2_init_14 rfl ?_
  refine lv_iconst (v := 1) hx hb dX2_init_15 (by decide) ?_
  refine kz_top (y := nI 1) (by decide) ?_
  refine lv_ldc (v := (-389564586)) hx hb hown (hts (.constant RX2 8 (-389564586)) (by decide +kernel)) dX2_init_16 ?_
  refine kz_astK (j := 1) (T := ks_k) hx hb hK hP hD hS 1 0 rfl rfl (by decide) (by decide) (by decide +kernel) dX2_init_18 (fun H locs hP hD hS => ?_)
  have hP : va_P (dC, dI) vwCl [(h, .inr (2, [.null, .null, .null, .null, .null, .null, .int 0, .null, .null, .null, .null, .int 0, .null, .int 0])), (ac, .inl (cJ, 64, .inl (ks_up ks_k 2)))] H := hP
  have hD : va_D A [(h, .inr (2, [.null, .null, .null, .null, .null, .null, .int 0, .null, .null, .null, .null, .int 0, .null, .int 0])), (ac, .inl (cJ, 64, .inl (ks_up ks_k 2)))] := hD
  refine lv_dup hx hb dX2_init_19 rfl ?_
  refine lv_iconst (v := 2) hx hb dX2_init_20 (by decide) ?_
  refine kz_top (y := nI 2) (by decide) ?_
  refine lv_ldc (v := (606105819)) hx hb hown (hts (.constant RX2 9 (606105819)) (by decide +kernel)) dX2_init_21 ?_
  refine kz_astK (j := 2) (T := ks_k) hx hb hK hP hD hS 1 0 rfl rfl (by decide) (by decide) (by decide +kernel) dX2_init_23 (fun H locs hP hD hS => ?_)
  have hP : va_P (dC, dI) vwCl [(h, .inr (2, [.null, .null, .null, .null, .null, .null, .int 0, .null, .null, .null, .null, .int 0, .null, .int 0])), (ac, .inl (cJ, 64, .inl (ks_up ks_k 3)))] H := hP
  have hD : va_D A [(h, .inr (2, [.null, .null, .null, .null, .null, .null, .int 0, .null, .null, .null, .null, .int 0, .null, .int 0])), (ac, .inl (cJ, 64, .inl (ks_up ks_k 3)))] := hD
  refine lv_dup hx hb dX2_init_24 rfl ?_
  refine lv_iconst (v := 3) hx hb dX2_init_25 (by decide) ?_
  refine kz_top (y := nI 3) (by decide) ?_
  refine lv_ldc (v := (-1044525330)) hx hb hown (hts (.constant RX2 10 (-1044525330)) (by decide +kernel)) dX2_init_26 ?_
  refine kz_astK (j := 3) (T := ks_k) hx hb hK hP hD hS 1 0 rfl rfl (by decide) (by decide) (by decide +kernel) dX2_init_28 (fun H locs hP hD hS => ?_)
  have hP : va_P (dC, dI) vwCl [(h, .inr (2, [.null, .null, .null, .null, .null, .null, .int 0, .null, .null, .null, .null, .int 0, .null, .int 0])), (ac, .inl (cJ, 64, .inl (ks_up ks_k 4)))] H := hP
  have hD : va_D A [(h, .inr (2, [.null, .null, .null, .null, .null, .null, .int 0, .null, .null, .null, .null, .int 0, .null, .int 0])), (ac, .inl (cJ, 64, .inl (ks_up ks_k 4)))] := hD
  refine lv_dup hx hb dX2_init_29 rfl ?_
  refine lv_iconst (v := 4) hx hb dX2_init_30 (by decide) ?_
  refine kz_top (y := nI 4) (by decide) ?_
  refine lv_ldc (v := (-176418897)) hx hb hown (hts (.constant RX2 11 (-176418897)) (by decide +kernel)) dX2_init_31 ?_
  refine kz_astK (j := 4) (T := ks_k) hx hb hK hP hD hS 1 0 rfl rfl (by decide) (by decide) (by decide +kernel) dX2_init_33 (fun H locs hP hD hS => ?_)
  have hP : va_P (dC, dI) vwCl [(h, .inr (2, [.null, .null, .null, .null, .null, .null, .int 0, .null, .null, .null, .null, .int 0, .null, .int 0])), (ac, .inl (cJ, 64, .inl (ks_up ks_k 5)))] H := hP
  have hD : va_D A [(h, .inr (2, [.null, .null, .null, .null, .null, .null, .int 0, .null, .null, .null, .null, .int 0, .null, .int 0])), (ac, .inl (cJ, 64, .inl (ks_up ks_k 5)))] := hD
  refine lv_dup hx hb dX2_init_34 rfl ?_
  refine lv_iconst (v := 5) hx hb dX2_init_35 (by decide) ?_
  refine kz_top (y := nI 5) (by decide) ?_
  refine lv_ldc (v := (1200080426)) hx hb hown (hts (.constant RX2 12 (1200080426)) (by decide +kernel)) dX2_init_36 ?_
  refine kz_astK (j := 5) (T := ks_k) hx hb hK hP hD hS 1 0 rfl rfl (by decide) (by decide) (by decide +kernel) dX2_init_38 (fun H locs hP hD hS => ?_)
  have hP : va_P (dC, dI) vwCl [(h, .inr (2, [.null, .null, .null, .null, .null, .null, .int 0, .null, .null, .null, .null, .int 0, .null, .int 0])), (ac, .inl (cJ, 64, .inl (ks_up ks_k 6)))] H := hP
  have hD : va_D A [(h, .inr (2, [.null, .null, .null, .null, .null, .null, .int 0, .null, .null, .null, .null, .int 0, .null, .int 0])), (ac, .inl (cJ, 64, .inl (ks_up ks_k 6)))] := hD
  refine lv_dup hx hb dX2_init_39 rfl ?_
  refine lv_bipush (v := 6) hx hb dX2_init_40 (by decide) ?_
  refine kz_top (y := nI 6) (by decide) ?_
  refine lv_ldc (v := (-1473231341)) hx hb hown (hts (.constant RX2 13 (-1473231341)) (by decide +kernel)) dX2_init_42 ?_
  refine kz_astK (j := 6) (T := ks_k) hx hb hK hP hD hS 1 0 rfl rfl (by decide) (by decide) (by decide +kernel) dX2_init_44 (fun H locs hP hD hS => ?_)
  have hP : va_P (dC, dI) vwCl [(h, .inr (2, [.null, .null, .null, .null, .null, .null, .int 0, .null, .null, .null, .null, .int 0, .null, .int 0])), (ac, .inl (cJ, 64, .inl (ks_up ks_k 7)))] H := hP
  have hD : va_D A [(h, .inr (2, [.null, .null, .null, .null, .null, .null, .int 0, .null, .null, .null, .null, .int 0, .null, .int 0])), (ac, .inl (cJ, 64, .inl (ks_up ks_k 7)))] := hD
  refine lv_dup hx hb dX2_init_45 rfl ?_
  refine lv_bipush (v := 7) hx hb dX2_init_46 (by decide) ?_
  refine kz_top (y := nI 7) (by decide) ?_
  refine lv_ldc (v := (-45705983)) hx hb hown (hts (.constant RX2 14 (-45705983)) (by decide +kernel)) dX2_init_48 ?_
  refine kz_astK (j := 7) (T := ks_k) hx hb hK hP hD hS 1 0 rfl rfl (by decide) (by decide) (by decide +kernel) dX2_init_50 (fun H locs hP hD hS => ?_)
  have hP : va_P (dC, dI) vwCl [(h, .inr (2, [.null, .null, .null, .null, .null, .null, .int 0, .null, .null, .null, .null, .int 0, .null, .int 0])), (ac, .inl (cJ, 64, .inl (ks_up ks_k 8)))] H := hP
  have hD : va_D A [(h, .inr (2, [.null, .null, .null, .null, .null, .null, .int 0, .null, .null, .null, .null, .int 0, .null, .int 0])), (ac, .inl (cJ, 64, .inl (ks_up ks_k 8)))] := hD
  refine lv_dup hx hb dX2_init_51 rfl ?_
  refine lv_bipush (v := 8) hx hb dX2_init_52 (by decide) ?_
  refine kz_top (y := nI 8) (by decide) ?_
  refine lv_ldc (v := (1770035416)) hx hb hown (hts (.constant RX2 15 (1770035416)) (by decide +kernel)) dX2_init_54 ?_
  refine kz_astK (j := 8) (T := ks_k) hx hb hK hP hD hS 1 0 rfl rfl (by decide) (by decide) (by decide +kernel) dX2_init_56 (fun H locs hP hD hS => ?_)
  have hP : va_P (dC, dI) vwCl [(h, .inr (2, [.null, .null, .null, .null, .null, .null, .int 0, .null, .null, .null, .null, .int 0, .null, .int 0])), (ac, .inl (cJ, 64, .inl (ks_up ks_k 9)))] H := hP
  have hD : va_D A [(h, .inr (2, [.null, .null, .null, .null, .null, .null, .int 0, .null, .null, .null, .null, .int 0, .null, .int 0])), (ac, .inl (cJ, 64, .inl (ks_up ks_k 9)))] := hD
  refine lv_dup hx hb dX2_init_57 rfl ?_
  refine lv_bipush (v := 9) hx hb dX2_init_58 (by decide) ?_
  refine kz_top (y := nI 9) (by decide) ?_
  refine lv_ldc (v := (-1958414417)) hx hb hown (hts (.constant RX2 16 (-1958414417)) (by decide +kernel)) dX2_init_60 ?_
  refine kz_astK (j := 9) (T := ks_k) hx hb hK hP hD hS 1 0 rfl rfl (by decide) (by decide) (by decide +kernel) dX2_init_62 (fun H locs hP hD hS => ?_)
  have hP : va_P (dC, dI) vwCl [(h, .inr (2, [.null, .null, .null, .null, .null, .null, .int 0, .null, .null, .null, .null, .int 0, .null, .int 0])), (ac, .inl (cJ, 64, .inl (ks_up ks_k 10)))] H := hP
  have hD : va_D A [(h, .inr (2, [.null, .null, .null, .null, .null, .null, .int 0, .null, .null, .null, .null, .int 0, .null, .int 0])), (ac, .inl (cJ, 64, .inl (ks_up ks_k 10)))] := hD
  refine lv_dup hx hb dX2_init_63 rfl ?_
  refine lv_bipush (v := 10) hx hb dX2_init_64 (by decide) ?_
  refine kz_top (y := nI 10) (by decide) ?_
  refine lv_ldc (v := (-42063)) hx hb hown (hts (.constant RX2 17 (-42063)) (by decide +kernel)) dX2_init_66 ?_
  refine kz_astK (j := 10) (T := ks_k) hx hb hK hP hD hS 1 0 rfl rfl (by decide) (by decide) (by decide +kernel) dX2_init_68 (fun H locs hP hD hS => ?_)
  have hP : va_P (dC, dI) vwCl [(h, .inr (2, [.null, .null, .null, .null, .null, .null, .int 0, .null, .null, .null, .null, .int 0, .null, .int 0])), (ac, .inl (cJ, 64, .inl (ks_up ks_k 11)))] H := hP
  have hD : va_D A [(h, .inr (2, [.null, .null, .null, .null, .null, .null, .int 0, .null, .null, .null, .null, .int 0, .null, .int 0])), (ac, .inl (cJ, 64, .inl (ks_up ks_k 11)))] := hD
  refine lv_dup hx hb dX2_init_69 rfl ?_
  refine lv_bipush (v := 11) hx hb dX2_init_70 (by decide) ?_
  refine kz_top (y := nI 11) (by decide) ?_
  refine lv_ldc (v := (-1990404162)) hx hb hown (hts (.constant RX2 18 (-1990404162)) (by decide +kernel)) dX2_init_72 ?_
  refine kz_astK (j := 11) (T := ks_k) hx hb hK hP hD hS 1 0 rfl rfl (by decide) (by decide) (by decide +kernel) dX2_init_74 (fun H locs hP hD hS => ?_)
  have hP : va_P (dC, dI) vwCl [(h, .inr (2, [.null, .null, .null, .null, .null, .null, .int 0, .null, .null, .null, .null, .int 0, .null, .int 0])), (ac, .inl (cJ, 64, .inl (ks_up ks_k 12)))] H := hP
  have hD : va_D A [(h, .inr (2, [.null, .null, .null, .null, .null, .null, .int 0, .null, .null, .null, .null, .int 0, .null, .int 0])), (ac, .inl (cJ, 64, .inl (ks_up ks_k 12)))] := hD
  refine lv_dup hx hb dX2_init_75 rfl ?_
  refine lv_bipush (v := 12) hx hb dX2_init_76 (by decide) ?_
  refine kz_top (y := nI 12) (by decide) ?_
  refine lv_ldc (v := (1804603682)) hx hb hown (hts (.constant RX2 19 (1804603682)) (by decide +kernel)) dX2_init_78 ?_
  refine kz_astK (j := 12) (T := ks_k) hx hb hK hP hD hS 1 0 rfl rfl (by decide) (by decide) (by decide +kernel) dX2_init_80 (fun H locs hP hD hS => ?_)
  have hP : va_P (dC, dI) vwCl [(h, .inr (2, [.null, .null, .null, .null, .null, .null, .int 0, .null, .null, .null, .null, .int 0, .null, .int 0])), (ac, .inl (cJ, 64, .inl (ks_up ks_k 13)))] H := hP
  have hD : va_D A [(h, .inr (2, [.null, .null, .null, .null, .null, .null, .int 0, .null, .null, .null, .null, .int 0, .null, .int 0])), (ac, .inl (cJ, 64, .inl (ks_up ks_k 13)))] := hD
  refine lv_dup hx hb dX2_init_81 rfl ?_
  refine lv_bipush (v := 13) hx hb dX2_init_82 (by decide) ?_
  refine kz_top (y := nI 13) (by decide) ?_
  refine lv_ldc (v := (-40341101)) hx hb hown (hts (.constant RX2 20 (-40341101)) (by decide +kernel)) dX2_init_84 ?_
  refine kz_astK (j := 13) (T := ks_k) hx hb hK hP hD hS 1 0 rfl rfl (by decide) (by decide) (by decide +kernel) dX2_init_86 (fun H locs hP hD hS => ?_)
  have hP : va_P (dC, dI) vwCl [(h, .inr (2, [.null, .null, .null, .null, .null, .null, .int 0, .null, .null, .null, .null, .int 0, .null, .int 0])), (ac, .inl (cJ, 64, .inl (ks_up ks_k 14)))] H := hP
  have hD : va_D A [(h, .inr (2, [.null, .null, .null, .null, .null, .null, .int 0, .null, .null, .null, .null, .int 0, .null, .int 0])), (ac, .inl (cJ, 64, .inl (ks_up ks_k 14)))] := hD
  refine lv_dup hx hb dX2_init_87 rfl ?_
  refine lv_bipush (v := 14) hx hb dX2_init_88 (by decide) ?_
  refine kz_top (y := nI 14) (by decide) ?_
  refine lv_ldc (v := (-1502002290)) hx hb hown (hts (.constant RX2 21 (-1502002290)) (by decide +kernel)) dX2_init_90 ?_
  refine kz_astK (j := 14) (T := ks_k) hx hb hK hP hD hS 1 0 rfl rfl (by decide) (by decide) (by decide +kernel) dX2_init_92 (fun H locs hP hD hS => ?_)
  have hP : va_P (dC, dI) vwCl [(h, .inr (2, [.null, .null, .null, .null, .null, .null, .int 0, .null, .null, .null, .null, .int 0, .null, .int 0])), (ac, .inl (cJ, 64, .inl (ks_up ks_k 15)))] H := hP
  have hD : va_D A [(h, .inr (2, [.null, .null, .null, .null, .null, .null, .int 0, .null, .null, .null, .null, .int 0, .null, .int 0])), (ac, .inl (cJ, 64, .inl (ks_up ks_k 15)))] := hD
  refine lv_dup hx hb dX2_init_93 rfl ?_
  refine lv_bipush (v := 15) hx hb dX2_init_94 (by decide) ?_
  refine kz_top (y := nI 15) (by decide) ?_
  refine lv_ldc (v := (1236535329)) hx hb hown (hts (.constant RX2 22 (1236535329)) (by decide +kernel)) dX2_init_96 ?_
  refine kz_astK (j := 15) (T := ks_k) hx hb hK hP hD hS 1 0 rfl rfl (by decide) (by decide) (by decide +kernel) dX2_init_98 (fun H locs hP hD hS => ?_)
  have hP : va_P (dC, dI) vwCl [(h, .inr (2, [.null, .null, .null, .null, .null, .null, .int 0, .null, .null, .null, .null, .int 0, .null, .int 0])), (ac, .inl (cJ, 64, .inl (ks_up ks_k 16)))] H := hP
  have hD : va_D A [(h, .inr (2, [.null, .null, .null, .null, .null, .null, .int 0, .null, .null, .null, .null, .int 0, .null, .int 0])), (ac, .inl (cJ, 64, .inl (ks_up ks_k 16)))] := hD
  refine lv_dup hx hb dX2_init_99 rfl ?_
  refine lv_bipush (v := 16) hx hb dX2_init_100 (by decide) ?_
  refine kz_top (y := nI 16) (by decide) ?_
  refine lv_ldc (v := (-165796510)) hx hb hown (hts (.constant RX2 23 (-165796510)) (by decide +kernel)) dX2_init_102 ?_
  refine kz_astK (j := 16) (T := ks_k) hx hb hK hP hD hS 1 0 rfl rfl (by decide) (by decide) (by decide +kernel) dX2_init_104 (fun H locs hP hD hS => ?_)
  have hP : va_P (dC, dI) vwCl [(h, .inr (2, [.null, .null, .null, .null, .null, .null, .int 0, .null, .null, .null, .null, .int 0, .null, .int 0])), (ac, .inl (cJ, 64, .inl (ks_up ks_k 17)))] H := hP
  have hD : va_D A [(h, .inr (2, [.null, .null, .null, .null, .null, .null, .int 0, .null, .null, .null, .null, .int 0, .null, .int 0])), (ac, .inl (cJ, 64, .inl (ks_up ks_k 17)))] := hD
  refine lv_dup hx hb dX2_init_105 rfl ?_
  refine lv_bipush (v := 17) hx hb dX2_init_106 (by decide) ?_
  refine kz_top (y := nI 17) (by decide) ?_
  refine lv_ldc (v := (-1069501632)) hx hb hown (hts (.constant RX2 24 (-1069501632)) (by decide +kernel)) dX2_init_108 ?_
  refine kz_astK (j := 17) (T := ks_k) hx hb hK hP hD hS 1 0 rfl rfl (by decide) (by decide) (by decide +kernel) dX2_init_110 (fun H locs hP hD hS => ?_)
  have hP : va_P (dC, dI) vwCl [(h, .inr (2, [.null, .null, .null, .null, .null, .null, .int 0, .null, .null, .null, .null, .int 0, .null, .int 0])), (ac, .inl (cJ, 64, .inl (ks_up ks_k 18)))] H := hP
  have hD : va_D A [(h, .inr (2, [.null, .null, .null, .null, .null, .null, .int 0, .null, .null, .null, .null, .int 0, .null, .int 0])), (ac, .inl (cJ, 64, .inl (ks_up ks_k 18)))] := hD
  refine lv_dup hx hb dX2_init_111 rfl ?_
  refine lv_bipush (v := 18) hx hb dX2_init_112 (by decide) ?_
  refine kz_top (y := nI 18) (by decide) ?_
  refine lv_ldc (v := (643717713)) hx hb hown (hts (.constant RX2 25 (643717713)) (by decide +kernel)) dX2_init_114 ?_
  refine kz_astK (j := 18) (T := ks_k) hx hb hK hP hD hS 1 0 rfl rfl (by decide) (by decide) (by decide +kernel) dX2_init_116 (fun H locs hP hD hS => ?_)
  have hP : va_P (dC, dI) vwCl [(h, .inr (2, [.null, .null, .null, .null, .null, .null, .int 0, .null, .null, .null, .null, .int 0, .null, .int 0])), (ac, .inl (cJ, 64, .inl (ks_up ks_k 19)))] H := hP
  have hD : va_D A [(h, .inr (2, [.null, .null, .null, .null, .null, .null, .int 0, .null, .null, .null, .null, .int 0, .null, .int 0])), (ac, .inl (cJ, 64, .inl (ks_up ks_k 19)))] := hD
  refine lv_dup hx hb dX2_init_117 rfl ?_
  refine lv_bipush (v := 19) hx hb dX2_init_118 (by decide) ?_
  refine kz_top (y := nI 19) (by decide) ?_
  refine lv_ldc (v := (-373897302)) hx hb hown (hts (.constant RX2 26 (-373897302)) (by decide +kernel)) dX2_init_120 ?_
  refine kz_astK (j := 19) (T := ks_k) hx hb hK hP hD hS 1 0 rfl rfl (by decide) (by decide) (by decide +kernel) dX2_init_122 (fun H locs hP hD hS => ?_)
  have hP : va_P (dC, dI) vwCl [(h, .inr (2, [.null, .null, .null, .null, .null, .null, .int 0, .null, .null, .null, .null, .int 0, .null, .int 0])), (ac, .inl (cJ, 64, .inl (ks_up ks_k 20)))] H := hP
  have hD : va_D A [(h, .inr (2, [.null, .null, .null, .null, .null, .null, .int 0, .null, .null, .null, .null, .int 0, .null, .int 0])), (ac, .inl (cJ, 64, .inl (ks_up ks_k 20)))] := hD
  refine lv_dup hx hb dX2_init_123 rfl ?_
  refine lv_bipush (v := 20) hx hb dX2_init_124 (by decide) ?_
  refine kz_top (y := nI 20) (by decide) ?_
  refine lv_ldc (v := (-701558691)) hx hb hown (hts (.constant RX2 27 (-701558691)) (by decide +kernel)) dX2_init_126 ?_
  refine kz_astK (j := 20) (T := ks_k) hx hb hK hP hD hS 1 0 rfl rfl (by decide) (by decide) (by decide +kernel) dX2_init_128 (fun H locs hP hD hS => ?_)
  have hP : va_P (dC, dI) vwCl [(h, .inr (2, [.null, .null, .null, .null, .null, .null, .int 0, .null, .null, .null, .null, .int 0, .null, .int 0])), (ac, .inl (cJ, 64, .inl (ks_up ks_k 21)))] H := hP
  have hD : va_D A [(h, .inr (2, [.null, .null, .null, .null, .null, .null, .int 0, .null, .null, .null, .null, .int 0, .null, .int 0])), (ac, .inl (cJ, 64, .inl (ks_up ks_k 21)))] := hD
  refine lv_dup hx hb dX2_init_129 rfl ?_
  refine lv_bipush (v := 21) hx hb dX2_init_130 (by decide) ?_
  refine kz_top (y := nI 21) (by decide) ?_
  refine lv_ldc (v := (38016083)) hx hb hown (hts (.constant RX2 28 (38016083)) (by decide +kernel)) dX2_init_132 ?_
  refine kz_astK (j := 21) (T := ks_k) hx hb hK hP hD hS 1 0 rfl rfl (by decide) (by decide) (by decide +kernel) dX2_init_134 (fun H locs hP hD hS => ?_)
  have hP : va_P (dC, dI) vwCl [(h, .inr (2, [.null, .null, .null, .null, .null, .null, .int 0, .null, .null, .null, .null, .int 0, .null, .int 0])), (ac, .inl (cJ, 64, .inl (ks_up ks_k 22)))] H := hP
  have hD : va_D A [(h, .inr (2, [.null, .null, .null, .null, .null, .null, .int 0, .null, .null, .null, .null, .int 0, .null, .int 0])), (ac, .inl (cJ, 64, .inl (ks_up ks_k 22)))] := hD
  refine lv_dup hx hb dX2_init_135 rfl ?_
  refine lv_bipush (v := 22) hx hb dX2_init_136 (by decide) ?_
  refine kz_top (y := nI 22) (by decide) ?_
  refine lv_ldc (v := (-660478335)) hx hb hown (hts (.constant RX2 29 (-660478335)) (by decide +kernel)) dX2_init_138 ?_
  refine kz_astK (j := 22) (T := ks_k) hx hb hK hP hD hS 1 0 rfl rfl (by decide) (by decide) (by decide +kernel) dX2_init_140 (fun H locs hP hD hS => ?_)
  have hP : va_P (dC, dI) vwCl [(h, .inr (2, [.null, .null, .null, .null, .null, .null, .int 0, .null, .null, .null, .null, .int 0, .null, .int 0])), (ac, .inl (cJ, 64, .inl (ks_up ks_k 23)))] H := hP
  have hD : va_D A [(h, .inr (2, [.null, .null, .null, .null, .null, .null, .int 0, .null, .null, .null, .null, .int 0, .null, .int 0])), (ac, .inl (cJ, 64, .inl (ks_up ks_k 23)))] := hD
  refine lv_dup hx hb dX2_init_141 rfl ?_
  refine lv_bipush (v := 23) hx hb dX2_init_142 (by decide) ?_
  refine kz_top (y := nI 23) (by decide) ?_
  refine lv_ldc (v := (-405537848)) hx hb hown (hts (.constant RX2 30 (-405537848)) (by decide +kernel)) dX2_init_144 ?_
  refine kz_astK (j := 23) (T := ks_k) hx hb hK hP hD hS 1 0 rfl rfl (by decide) (by decide) (by decide +kernel) dX2_init_146 (fun H locs hP hD hS => ?_)
  have hP : va_P (dC, dI) vwCl [(h, .inr (2, [.null, .null, .null, .null, .null, .null, .int 0, .null, .null, .null, .null, .int 0, .null, .int 0])), (ac, .inl (cJ, 64, .inl (ks_up ks_k 24)))] H := hP
  have hD : va_D A [(h, .inr (2, [.null, .null, .null, .null, .null, .null, .int 0, .null, .null, .null, .null, .int 0, .null, .int 0])), (ac, .inl (cJ, 64, .inl (ks_up ks_k 24)))] := hD
  refine lv_dup hx hb dX2_init_147 rfl ?_
  refine lv_bipush (v := 24) hx hb dX2_init_148 (by decide) ?_
  refine kz_top (y := nI 24) (by decide) ?_
  refine lv_ldc (v := (568446438)) hx hb hown (hts (.constant RX2 31 (568446438)) (by decide +kernel)) dX2_init_150 ?_
  refine kz_astK (j := 24) (T := ks_k) hx hb hK hP hD hS 1 0 rfl rfl (by decide) (by decide) (by decide +kernel) dX2_init_152 (fun H locs hP hD hS => ?_)
  have hP : va_P (dC, dI) vwCl [(h, .inr (2, [.null, .null, .null, .null, .null, .null, .int 0, .null, .null, .null, .null, .int 0, .null, .int 0])), (ac, .inl (cJ, 64, .inl (ks_up ks_k 25)))] H := hP
  have hD : va_D A [(h, .inr (2, [.null, .null, .null, .null, .null, .null, .int 0, .null, .null, .null, .null, .int 0, .null, .int 0])), (ac, .inl (cJ, 64, .inl (ks_up ks_k 25)))] := hD
  refine lv_dup hx hb dX2_init_153 rfl ?_
  refine lv_bipush (v := 25) hx hb dX2_init_154 (by decide) ?_
  refine kz_top (y := nI 25) (by decide) ?_
  refine lv_ldc (v := (-1019803690)) hx hb hown (hts (.constant RX2 32 (-1019803690)) (by decide +kernel)) dX2_init_156 ?_
  refine kz_astK (j := 25) (T := ks_k) hx hb hK hP hD hS 1 0 rfl rfl (by decide) (by decide) (by decide +kernel) dX2_init_158 (fun H locs hP hD hS => ?_)
  have hP : va_P (dC, dI) vwCl [(h, .inr (2, [.null, .null, .null, .null, .null, .null, .int 0, .null, .null, .null, .null, .int 0, .null, .int 0])), (ac, .inl (cJ, 64, .inl (ks_up ks_k 26)))] H := hP
  have hD : va_D A [(h, .inr (2, [.null, .null, .null, .null, .null, .null, .int 0, .null, .null, .null, .null, .int 0, .null, .int 0])), (ac, .inl (cJ, 64, .inl (ks_up ks_k 26)))] := hD
  refine lv_dup hx hb dX2_init_159 rfl ?_
  refine lv_bipush (v := 26) hx hb dX2_init_160 (by decide) ?_
  refine kz_top (y := nI 26) (by decide) ?_
  refine lv_ldc (v := (-187363961)) hx hb hown (hts (.constant RX2 33 (-187363961)) (by decide +kernel)) dX2_init_162 ?_
  refine kz_astK (j := 26) (T := ks_k) hx hb hK hP hD hS 1 0 rfl rfl (by decide) (by decide) (by decide +kernel) dX2_init_164 (fun H locs hP hD hS => ?_)
  have hP : va_P (dC, dI) vwCl [(h, .inr (2, [.null, .null, .null, .null, .null, .null, .int 0, .null, .null, .null, .null, .int 0, .null, .int 0])), (ac, .inl (cJ, 64, .inl (ks_up ks_k 27)))] H := hP
  have hD : va_D A [(h, .inr (2, [.null, .null, .null, .null, .null, .null, .int 0, .null, .null, .null, .null, .int 0, .null, .int 0])), (ac, .inl (cJ, 64, .inl (ks_up ks_k 27)))] := hD
  refine lv_dup hx hb dX2_init_165 rfl ?_
  refine lv_bipush (v := 27) hx hb dX2_init_166 (by decide) ?_
  refine kz_top (y := nI 27) (by decide) ?_
  refine lv_ldc (v := (1163531501)) hx hb hown (hts (.constant RX2 34 (1163531501)) (by decide +kernel)) dX2_init_168 ?_
  refine kz_astK (j := 27) (T := ks_k) hx hb hK hP hD hS 1 0 rfl rfl (by decide) (by decide) (by decide +kernel) dX2_init_170 (fun H locs hP hD hS => ?_)
  have hP : va_P (dC, dI) vwCl [(h, .inr (2, [.null, .null, .null, .null, .null, .null, .int 0, .null, .null, .null, .null, .int 0, .null, .int 0])), (ac, .inl (cJ, 64, .inl (ks_up ks_k 28)))] H := hP
  have hD : va_D A [(h, .inr (2, [.null, .null, .null, .null, .null, .null, .int 0, .null, .null, .null, .null, .int 0, .null, .int 0])), (ac, .inl (cJ, 64, .inl (ks_up ks_k 28)))] := hD
  refine lv_dup hx hb dX2_init_171 rfl ?_
  refine lv_bipush (v := 28) hx hb dX2_init_172 (by decide) ?_
  refine kz_top (y := nI 28) (by decide) ?_
  refine lv_ldc (v := (-1444681467)) hx hb hown (hts (.constant RX2 35 (-1444681467)) (by decide +kernel)) dX2_init_174 ?_
  refine kz_astK (j := 28) (T := ks_k) hx hb hK hP hD hS 1 0 rfl rfl (by decide) (by decide) (by decide +kernel) dX2_init_176 (fun H locs hP hD hS => ?_)
  have hP : va_P (dC, dI) vwCl [(h, .inr (2, [.null, .null, .null, .null, .null, .null, .int 0, .null, .null, .null, .null, .int 0, .null, .int 0])), (ac, .inl (cJ, 64, .inl (ks_up ks_k 29)))] H := hP
  have hD : va_D A [(h, .inr (2, [.null, .null, .null, .null, .null, .null, .int 0, .null, .null, .null, .null, .int 0, .null, .int 0])), (ac, .inl (cJ, 64, .inl (ks_up ks_k 29)))] := hD
  refine lv_dup hx hb dX2_init_177 rfl ?_
  refine lv_bipush (v := 29) hx hb dX2_init_178 (by decide) ?_
  refine kz_top (y := nI 29) (by decide) ?_
  refine lv_ldc (v := (-51403784)) hx hb hown (hts (.constant RX2 36 (-51403784)) (by decide +kernel)) dX2_init_180 ?_
  refine kz_astK (j := 29) (T := ks_k) hx hb hK hP hD hS 1 0 rfl rfl (by decide) (by decide) (by decide +kernel) dX2_init_182 (fun H locs hP hD hS => ?_)
  have hP : va_P (dC, dI) vwCl [(h, .inr (2, [.null, .null, .null, .null, .null, .null, .int 0, .null, .null, .null, .null, .int 0, .null, .int 0])), (ac, .inl (cJ, 64, .inl (ks_up ks_k 30)))] H := hP
  have hD : va_D A [(h, .inr (2, [.null, .null, .null, .null, .null, .null, .int 0, .null, .null, .null, .null, .int 0, .null, .int 0])), (ac, .inl (cJ, 64, .inl (ks_up ks_k 30)))] := hD
  refine lv_dup hx hb dX2_init_183 rfl ?_
  refine lv_bipush (v := 30) hx hb dX2_init_184 (by decide) ?_
  refine kz_top (y := nI 30) (by decide) ?_
  refine lv_ldc (v := (1735328473)) hx hb hown (hts (.constant RX2 37 (1735328473)) (by decide +kernel)) dX2_init_186 ?_
  refine kz_astK (j := 30) (T := ks_k) hx hb hK hP hD hS 1 0 rfl rfl (by decide) (by decide) (by decide +kernel) dX2_init_188 (fun H locs hP hD hS => ?_)
  have hP : va_P (dC, dI) vwCl [(h, .inr (2, [.null, .null, .null, .null, .null, .null, .int 0, .null, .null, .null, .null, .int 0, .null, .int 0])), (ac, .inl (cJ, 64, .inl (ks_up ks_k 31)))] H := hP
  have hD : va_D A [(h, .inr (2, [.null, .null, .null, .null, .null, .null, .int 0, .null, .null, .null, .null, .int 0, .null, .int 0])), (ac, .inl (cJ, 64, .inl (ks_up ks_k 31)))] := hD
  refine lv_dup hx hb dX2_init_189 rfl ?_
  refine lv_bipush (v := 31) hx hb dX2_init_190 (by decide) ?_
  refine kz_top (y := nI 31) (by decide) ?_
  refine lv_ldc (v := (-1926607734)) hx hb hown (hts (.constant RX2 38 (-1926607734)) (by decide +kernel)) dX2_init_192 ?_
  refine kz_astK (j := 31) (T := ks_k) hx hb hK hP hD hS 1 0 rfl rfl (by decide) (by decide) (by decide +kernel) dX2_init_194 (fun H locs hP hD hS => ?_)
  have hP : va_P (dC, dI) vwCl [(h, .inr (2, [.null, .null, .null, .null, .null, .null, .int 0, .null, .null, .null, .null, .int 0, .null, .int 0])), (ac, .inl (cJ, 64, .inl (ks_up ks_k 32)))] H := hP
  have hD : va_D A [(h, .inr (2, [.null, .null, .null, .null, .null, .null, .int 0, .null, .null, .null, .null, .int 0, .null, .int 0])), (ac, .inl (cJ, 64, .inl (ks_up ks_k 32)))] := hD
  refine lv_dup hx hb dX2_init_195 rfl ?_
  refine lv_bipush (v := 32) hx hb dX2_init_196 (by decide) ?_
  refine kz_top (y := nI 32) (by decide) ?_
  refine lv_ldc (v := (-378558)) hx hb hown (hts (.constant RX2 39 (-378558)) (by decide +kernel)) dX2_init_198 ?_
  refine kz_astK (j := 32) (T := ks_k) hx hb hK hP hD hS 1 0 rfl rfl (by decide) (by decide) (by decide +kernel) dX2_init_200 (fun H locs hP hD hS => ?_)
  have hP : va_P (dC, dI) vwCl [(h, .inr (2, [.null, .null, .null, .null, .null, .null, .int 0, .null, .null, .null, .null, .int 0, .null, .int 0])), (ac, .inl (cJ, 64, .inl (ks_up ks_k 33)))] H := hP
  have hD : va_D A [(h, .inr (2, [.null, .null, .null, .null, .null, .null, .int 0, .null, .null, .null, .null, .int 0, .null, .int 0])), (ac, .inl (cJ, 64, .inl (ks_up ks_k 33)))] := hD
  refine lv_dup hx hb dX2_init_201 rfl ?_
  refine lv_bipush (v := 33) hx hb dX2_init_202 (by decide) ?_
  refine kz_top (y := nI 33) (by decide) ?_
  refine lv_ldc (v := (-2022574463)) hx hb hown (hts (.constant RX2 40 (-2022574463)) (by decide +kernel)) dX2_init_204 ?_
  refine kz_astK (j := 33) (T := ks_k) hx hb hK hP hD hS 1 0 rfl rfl (by decide) (by decide) (by decide +kernel) dX2_init_206 (fun H locs hP hD hS => ?_)
  have hP : va_P (dC, dI) vwCl [(h, .inr (2, [.null, .null, .null, .null, .null, .null, .int 0, .null, .null, .null, .null, .int 0, .null, .int 0])), (ac, .inl (cJ, 64, .inl (ks_up ks_k 34)))] H := hP
  have hD : va_D A [(h, .inr (2, [.null, .null, .null, .null, .null, .null, .int 0, .null, .null, .null, .null, .int 0, .null, .int 0])), (ac, .inl (cJ, 64, .inl (ks_up ks_k 34)))] := hD
  refine lv_dup hx hb dX2_init_207 rfl ?_
  refine lv_bipush (v := 34) hx hb dX2_init_208 (by decide) ?_
  refine kz_top (y := nI 34) (by decide) ?_
  refine lv_ldc (v := (1839030562)) hx hb hown (hts (.constant RX2 41 (1839030562)) (by decide +kernel)) dX2_init_210 ?_
  refine kz_astK (j := 34) (T := ks_k) hx hb hK hP hD hS 1 0 rfl rfl (by decide) (by decide) (by decide +kernel) dX2_init_212 (fun H locs hP hD hS => ?_)
  have hP : va_P (dC, dI) vwCl [(h, .inr (2, [.null, .null, .null, .null, .null, .null, .int 0, .null, .null, .null, .null, .int 0, .null, .int 0])), (ac, .inl (cJ, 64, .inl (ks_up ks_k 35)))] H := hP
  have hD : va_D A [(h, .inr (2, [.null, .null, .null, .null, .null, .null, .int 0, .null, .null, .null, .null, .int 0, .null, .int 0])), (ac, .inl (cJ, 64, .inl (ks_up ks_k 35)))] := hD
  refine lv_dup hx hb dX2_init_213 rfl ?_
  refine lv_bipush (v := 35) hx hb dX2_init_214 (by decide) ?_
  refine kz_top (y := nI 35) (by decide) ?_
  refine lv_ldc (v := (-35309556)) hx hb hown (hts (.constant RX2 42 (-35309556)) (by decide +kernel)) dX2_init_216 ?_
  refine kz_astK (j := 35) (T := ks_k) hx hb hK hP hD hS 1 0 rfl rfl (by decide) (by decide) (by decide +kernel) dX2_init_218 (fun H locs hP hD hS => ?_)
  have hP : va_P (dC, dI) vwCl [(h, .inr (2, [.null, .null, .null, .null, .null, .null, .int 0, .null, .null, .null, .null, .int 0, .null, .int 0])), (ac, .inl (cJ, 64, .inl (ks_up ks_k 36)))] H := hP
  have hD : va_D A [(h, .inr (2, [.null, .null, .null, .null, .null, .null, .int 0, .null, .null, .null, .null, .int 0, .null, .int 0])), (ac, .inl (cJ, 64, .inl (ks_up ks_k 36)))] := hD
  refine lv_dup hx hb dX2_init_219 rfl ?_
  refine lv_bipush (v := 36) hx hb dX2_init_220 (by decide) ?_
  refine kz_top (y := nI 36) (by decide) ?_
  refine lv_ldc (v := (-1530992060)) hx hb hown (hts (.constant RX2 43 (-1530992060)) (by decide +kernel)) dX2_init_222 ?_
  refine kz_astK (j := 36) (T := ks_k) hx hb hK hP hD hS 1 0 rfl rfl (by decide) (by decide) (by decide +kernel) dX2_init_224 (fun H locs hP hD hS => ?_)
  have hP : va_P (dC, dI) vwCl [(h, .inr (2, [.null, .null, .null, .null, .null, .null, .int 0, .null, .null, .null, .null, .int 0, .null, .int 0])), (ac, .inl (cJ, 64, .inl (ks_up ks_k 37)))] H := hP
  have hD : va_D A [(h, .inr (2, [.null, .null, .null, .null, .null, .null, .int 0, .null, .null, .null, .null, .int 0, .null, .int 0])), (ac, .inl (cJ, 64, .inl (ks_up ks_k 37)))] := hD
  refine lv_dup hx hb dX2_init_225 rfl ?_
  refine lv_bipush (v := 37) hx hb dX2_init_226 (by decide) ?_
  refine kz_top (y := nI 37) (by decide) ?_
  refine lv_ldc (v := (1272893353)) hx hb hown (hts (.constant RX2 44 (1272893353)) (by decide +kernel)) dX2_init_228 ?_
  refine kz_astK (j := 37) (T := ks_k) hx hb hK hP hD hS 1 0 rfl rfl (by decide) (by decide) (by decide +kernel) dX2_init_230 (fun H locs hP hD hS => ?_)
  have hP : va_P (dC, dI) vwCl [(h, .inr (2, [.null, .null, .null, .null, .null, .null, .int 0, .null, .null, .null, .null, .int 0, .null, .int 0])), (ac, .inl (cJ, 64, .inl (ks_up ks_k 38)))] H := hP
  have hD : va_D A [(h, .inr (2, [.null, .null, .null, .null, .null, .null, .int 0, .null, .null, .null, .null, .int 0, .null, .int 0])), (ac, .inl (cJ, 64, .inl (ks_up ks_k 38)))] := hD
  refine lv_dup hx hb dX2_init_231 rfl ?_
  refine lv_bipush (v := 38) hx hb dX2_init_232 (by decide) ?_
  refine kz_top (y := nI 38) (by decide) ?_
  refine lv_ldc (v := (-155497632)) hx hb hown (hts (.constant RX2 45 (-155497632)) (by decide +kernel)) dX2_init_234 ?_
  refine kz_astK (j := 38) (T := ks_k) hx hb hK hP hD hS 1 0 rfl rfl (by decide) (by decide) (by decide +kernel) dX2_init_236 (fun H locs hP hD hS => ?_)
  have hP : va_P (dC, dI) vwCl [(h, .inr (2, [.null, .null, .null, .null, .null, .null, .int 0, .null, .null, .null, .null, .int 0, .null, .int 0])), (ac, .inl (cJ, 64, .inl (ks_up ks_k 39)))] H := hP
  have hD : va_D A [(h, .inr (2, [.null, .null, .null, .null, .null, .null, .int 0, .null, .null, .null, .null, .int 0, .null, .int 0])), (ac, .inl (cJ, 64, .inl (ks_up ks_k 39)))] := hD
  refine lv_dup hx hb dX2_init_237 rfl ?_
  refine lv_bipush (v := 39) hx hb dX2_init_238 (by decide) ?_
  refine kz_top (y := nI 39) (by decide) ?_
  refine lv_ldc (v := (-1094730640)) hx hb hown (hts (.constant RX2 46 (-1094730640)) (by decide +kernel)) dX2_init_240 ?_
  refine kz_astK (j := 39) (T := ks_k) hx hb hK hP hD hS 1 0 rfl rfl (by decide) (by decide) (by decide +kernel) dX2_init_242 (fun H locs hP hD hS => ?_)
  have hP : va_P (dC, dI) vwCl [(h, .inr (2, [.null, .null, .null, .null, .null, .null, .int 0, .null, .null, .null, .null, .int 0, .null, .int 0])), (ac, .inl (cJ, 64, .inl (ks_up ks_k 40)))] H := hP
  have hD : va_D A [(h, .inr (2, [.null, .null, .null, .null, .null, .null, .int 0, .null, .null, .null, .null, .int 0, .null, .int 0])), (ac, .inl (cJ, 64, .inl (ks_up ks_k 40)))] := hD
  refine lv_dup hx hb dX2_init_243 rfl ?_
  refine lv_bipush (v := 40) hx hb dX2_init_244 (by decide) ?_
  refine kz_top (y := nI 40) (by decide) ?_
  refine lv_ldc (v := (681279174)) hx hb hown (hts (.constant RX2 47 (681279174)) (by decide +kernel)) dX2_init_246 ?_
  refine kz_astK (j := 40) (T := ks_k) hx hb hK hP hD hS 1 0 rfl rfl (by decide) (by decide) (by decide +kernel) dX2_init_248 (fun H locs hP hD hS => ?_)
  have hP : va_P (dC, dI) vwCl [(h, .inr (2, [.null, .null, .null, .null, .null, .null, .int 0, .null, .null, .null, .null, .int 0, .null, .int 0])), (ac, .inl (cJ, 64, .inl (ks_up ks_k 41)))] H := hP
  have hD : va_D A [(h, .inr (2, [.null, .null, .null, .null, .null, .null, .int 0, .null, .null, .null, .null, .int 0, .null, .int 0])), (ac, .inl (cJ, 64, .inl (ks_up ks_k 41)))] := hD
  refine lv_dup hx hb dX2_init_249 rfl ?_
  refine lv_bipush (v := 41) hx hb dX2_init_250 (by decide) ?_
  refine kz_top (y := nI 41) (by decide) ?_
  refine lv_ldc (v := (-358537222)) hx hb hown (hts (.constant RX2 48 (-358537222)) (by decide +kernel)) dX2_init_252 ?_
  refine kz_astK (j := 41) (T := ks_k) hx hb hK hP hD hS 1 0 rfl rfl (by decide) (by decide) (by decide +kernel) dX2_init_254 (fun H locs hP hD hS => ?_)
  have hP : va_P (dC, dI) vwCl [(h, .inr (2, [.null, .null, .null, .null, .null, .null, .int 0, .null, .null, .null, .null, .int 0, .null, .int 0])), (ac, .inl (cJ, 64, .inl (ks_up ks_k 42)))] H := hP
  have hD : va_D A [(h, .inr (2, [.null, .null, .null, .null, .null, .null, .int 0, .null, .null, .null, .null, .int 0, .null, .int 0])), (ac, .inl (cJ, 64, .inl (ks_up ks_k 42)))] := hD
  refine lv_dup hx hb dX2_init_255 rfl ?_
  refine lv_bipush (v := 42) hx hb dX2_init_256 (by decide) ?_
  refine kz_top (y := nI 42) (by decide) ?_
  refine lv_ldc (v := (-722521979)) hx hb hown (hts (.constant RX2 49 (-722521979)) (by decide +kernel)) dX2_init_258 ?_
  refine kz_astK (j := 42) (T := ks_k) hx hb hK hP hD hS 1 0 rfl rfl (by decide) (by decide) (by decide +kernel) dX2_init_260 (fun H locs hP hD hS => ?_)
  have hP : va_P (dC, dI) vwCl [(h, .inr (2, [.null, .null, .null, .null, .null, .null, .int 0, .null, .null, .null, .null, .int 0, .null, .int 0])), (ac, .inl (cJ, 64, .inl (ks_up ks_k 43)))] H := hP
  have hD : va_D A [(h, .inr (2, [.null, .null, .null, .null, .null, .null, .int 0, .null, .null, .null, .null, .int 0, .null, .int 0])), (ac, .inl (cJ, 64, .inl (ks_up ks_k 43)))] := hD
  refine lv_dup hx hb dX2_init_261 rfl ?_
  refine lv_bipush (v := 43) hx hb dX2_init_262 (by decide) ?_
  refine kz_top (y := nI 43) (by decide) ?_
  refine lv_ldc (v := (76029189)) hx hb hown (hts (.constant RX2 50 (76029189)) (by decide +kernel)) dX2_init_264 ?_
  refine kz_astK (j := 43) (T := ks_k) hx hb hK hP hD hS 1 0 rfl rfl (by decide) (by decide) (by decide +kernel) dX2_init_266 (fun H locs hP hD hS => ?_)
  have hP : va_P (dC, dI) vwCl [(h, .inr (2, [.null, .null, .null, .null, .null, .null, .int 0, .null, .null, .null, .null, .int 0, .null, .int 0])), (ac, .inl (cJ, 64, .inl (ks_up ks_k 44)))] H := hP
  have hD : va_D A [(h, .inr (2, [.null, .null, .null, .null, .null, .null, .int 0, .null, .null, .null, .null, .int 0, .null, .int 0])), (ac, .inl (cJ, 64, .inl (ks_up ks_k 44)))] := hD
  refine lv_dup hx hb dX2_init_267 rfl ?_
  refine lv_bipush (v := 44) hx hb dX2_init_268 (by decide) ?_
  refine kz_top (y := nI 44) (by decide) ?_
  refine lv_ldc (v := (-640364487)) hx hb hown (hts (.constant RX2 51 (-640364487)) (by decide +kernel)) dX2_init_270 ?_
  refine kz_astK (j := 44) (T := ks_k) hx hb hK hP hD hS 1 0 rfl rfl (by decide) (by decide) (by decide +kernel) dX2_init_272 (fun H locs hP hD hS => ?_)
  have hP : va_P (dC, dI) vwCl [(h, .inr (2, [.null, .null, .null, .null, .null, .null, .int 0, .null, .null, .null, .null, .int 0, .null, .int 0])), (ac, .inl (cJ, 64, .inl (ks_up ks_k 45)))] H := hP
  have hD : va_D A [(h, .inr (2, [.null, .null, .null, .null, .null, .null, .int 0, .null, .null, .null, .null, .int 0, .null, .int 0])), (ac, .inl (cJ, 64, .inl (ks_up ks_k 45)))] := hD
  refine lv_dup hx hb dX2_init_273 rfl ?_
  refine lv_bipush (v := 45) hx hb dX2_init_274 (by decide) ?_
  refine kz_top (y := nI 45) (by decide) ?_
  refine lv_ldc (v := (-421815835)) hx hb hown (hts (.constant RX2 52 (-421815835)) (by decide +kernel)) dX2_init_276 ?_
  refine kz_astK (j := 45) (T := ks_k) hx hb hK hP hD hS 1 0 rfl rfl (by decide) (by decide) (by decide +kernel) dX2_init_278 (fun H locs hP hD hS => ?_)
  have hP : va_P (dC, dI) vwCl [(h, .inr (2, [.null, .null, .null, .null, .null, .null, .int 0, .null, .null, .null, .null, .int 0, .null, .int 0])), (ac, .inl (cJ, 64, .inl (ks_up ks_k 46)))] H := hP
  have hD : va_D A [(h, .inr (2, [.null, .null, .null, .null, .null, .null, .int 0, .null, .null, .null, .null, .int 0, .null, .int 0])), (ac, .inl (cJ, 64, .inl (ks_up ks_k 46)))] := hD
  refine lv_dup hx hb dX2_init_279 rfl ?_
  refine lv_bipush (v := 46) hx hb dX2_init_280 (by decide) ?_
  refine kz_top (y := nI 46) (by decide) ?_
  refine lv_ldc (v := (530742520)) hx hb hown (hts (.constant RX2 53 (530742520)) (by decide +kernel)) dX2_init_282 ?_
  refine kz_astK (j := 46) (T := ks_k) hx hb hK hP hD hS 1 0 rfl rfl (by decide) (by decide) (by decide +kernel) dX2_init_284 (fun H locs hP hD hS => ?_)
  have hP : va_P (dC, dI) vwCl [(h, .inr (2, [.null, .null, .null, .null, .null, .null, .int 0, .null, .null, .null, .null, .int 0, .null, .int 0])), (ac, .inl (cJ, 64, .inl (ks_up ks_k 47)))] H := hP
  have hD : va_D A [(h, .inr (2, [.null, .null, .null, .null, .null, .null, .int 0, .null, .null, .null, .null, .int 0, .null, .int 0])), (ac, .inl (cJ, 64, .inl (ks_up ks_k 47)))] := hD
  refine lv_dup hx hb dX2_init_285 rfl ?_
  refine lv_bipush (v := 47) hx hb dX2_init_286 (by decide) ?_
  refine kz_top (y := nI 47) (by decide) ?_
  refine lv_ldc (v := (-995338651)) hx hb hown (hts (.constant RX2 54 (-995338651)) (by decide +kernel)) dX2_init_288 ?_
  refine kz_astK (j := 47) (T := ks_k) hx hb hK hP hD hS 1 0 rfl rfl (by decide) (by decide) (by decide +kernel) dX2_init_290 (fun H locs hP hD hS => ?_)
  have hP : va_P (dC, dI) vwCl [(h, .inr (2, [.null, .null, .null, .null, .null, .null, .int 0, .null, .null, .null, .null, .int 0, .null, .int 0])), (ac, .inl (cJ, 64, .inl (ks_up ks_k 48)))] H := hP
  have hD : va_D A [(h, .inr (2, [.null, .null, .null, .null, .null, .null, .int 0, .null, .null, .null, .null, .int 0, .null, .int 0])), (ac, .inl (cJ, 64, .inl (ks_up ks_k 48)))] := hD
  refine lv_dup hx hb dX2_init_291 rfl ?_
  refine lv_bipush (v := 48) hx hb dX2_init_292 (by decide) ?_
  refine kz_top (y := nI 48) (by decide) ?_
  refine lv_ldc (v := (-198630844)) hx hb hown (hts (.constant RX2 55 (-198630844)) (by decide +kernel)) dX2_init_294 ?_
  refine kz_astK (j := 48) (T := ks_k) hx hb hK hP hD hS 1 0 rfl rfl (by decide) (by decide) (by decide +kernel) dX2_init_296 (fun H locs hP hD hS => ?_)
  have hP : va_P (dC, dI) vwCl [(h, .inr (2, [.null, .null, .null, .null, .null, .null, .int 0, .null, .null, .null, .null, .int 0, .null, .int 0])), (ac, .inl (cJ, 64, .inl (ks_up ks_k 49)))] H := hP
  have hD : va_D A [(h, .inr (2, [.null, .null, .null, .null, .null, .null, .int 0, .null, .null, .null, .null, .int 0, .null, .int 0])), (ac, .inl (cJ, 64, .inl (ks_up ks_k 49)))] := hD
  refine lv_dup hx hb dX2_init_297 rfl ?_
  refine lv_bipush (v := 49) hx hb dX2_init_298 (by decide) ?_
  refine kz_top (y := nI 49) (by decide) ?_
  refine lv_ldc (v := (1126891415)) hx hb hown (hts (.constant RX2 56 (1126891415)) (by decide +kernel)) dX2_init_300 ?_
  refine kz_astK (j := 49) (T := ks_k) hx hb hK hP hD hS 1 0 rfl rfl (by decide) (by decide) (by decide +kernel) dX2_init_302 (fun H locs hP hD hS => ?_)
  have hP : va_P (dC, dI) vwCl [(h, .inr (2, [.null, .null, .null, .null, .null, .null, .int 0, .null, .null, .null, .null, .int 0, .null, .int 0])), (ac, .inl (cJ, 64, .inl (ks_up ks_k 50)))] H := hP
  have hD : va_D A [(h, .inr (2, [.null, .null, .null, .null, .null, .null, .int 0, .null, .null, .null, .null, .int 0, .null, .int 0])), (ac, .inl (cJ, 64, .inl (ks_up ks_k 50)))] := hD
  refine lv_dup hx hb dX2_init_303 rfl ?_
  refine lv_bipush (v := 50) hx hb dX2_init_304 (by decide) ?_
  refine kz_top (y := nI 50) (by decide) ?_
  refine lv_ldc (v := (-1416354905)) hx hb hown (hts (.constant RX2 57 (-1416354905)) (by decide +kernel)) dX2_init_306 ?_
  refine kz_astK (j := 50) (T := ks_k) hx hb hK hP hD hS 1 0 rfl rfl (by decide) (by decide) (by decide +kernel) dX2_init_308 (fun H locs hP hD hS => ?_)
  have hP : va_P (dC, dI) vwCl [(h, .inr (2, [.null, .null, .null, .null, .null, .null, .int 0, .null, .null, .null, .null, .int 0, .null, .int 0])), (ac, .inl (cJ, 64, .inl (ks_up ks_k 51)))] H := hP
  have hD : va_D A [(h, .inr (2, [.null, .null, .null, .null, .null, .null, .int 0, .null, .null, .null, .null, .int 0, .null, .int 0])), (ac, .inl (cJ, 64, .inl (ks_up ks_k 51)))] := hD
  refine lv_dup hx hb dX2_init_309 rfl ?_
  refine lv_bipush (v := 51) hx hb dX2_init_310 (by decide) ?_
  refine kz_top (y := nI 51) (by decide) ?_
  refine lv_ldc (v := (-57434055)) hx hb hown (hts (.constant RX2 58 (-57434055)) (by decide +kernel)) dX2_init_312 ?_
  refine kz_astK (j := 51) (T := ks_k) hx hb hK hP hD hS 1 0 rfl rfl (by decide) (by decide) (by decide +kernel) dX2_init_314 (fun H locs hP hD hS => ?_)
  have hP : va_P (dC, dI) vwCl [(h, .inr (2, [.null, .null, .null, .null, .null, .null, .int 0, .null, .null, .null, .null, .int 0, .null, .int 0])), (ac, .inl (cJ, 64, .inl (ks_up ks_k 52)))] H := hP
  have hD : va_D A [(h, .inr (2, [.null, .null, .null, .null, .null, .null, .int 0, .null, .null, .null, .null, .int 0, .null, .int 0])), (ac, .inl (cJ, 64, .inl (ks_up ks_k 52)))] := hD
  refine lv_dup hx hb dX2_init_315 rfl ?_
  refine lv_bipush (v := 52) hx hb dX2_init_316 (by decide) ?_
  refine kz_top (y := nI 52) (by decide) ?_
  refine lv_ldc (v := (1700485571)) hx hb hown (hts (.constant RX2 59 (1700485571)) (by decide +kernel)) dX2_init_318 ?_
  refine kz_astK (j := 52) (T := ks_k) hx hb hK hP hD hS 1 0 rfl rfl (by decide) (by decide) (by decide +kernel) dX2_init_320 (fun H locs hP hD hS => ?_)
  have hP : va_P (dC, dI) vwCl [(h, .inr (2, [.null, .null, .null, .null, .null, .null, .int 0, .null, .null, .null, .null, .int 0, .null, .int 0])), (ac, .inl (cJ, 64, .inl (ks_up ks_k 53)))] H := hP
  have hD : va_D A [(h, .inr (2, [.null, .null, .null, .null, .null, .null, .int 0, .null, .null, .null, .null, .int 0, .null, .int 0])), (ac, .inl (cJ, 64, .inl (ks_up ks_k 53)))] := hD
  refine lv_dup hx hb dX2_init_321 rfl ?_
  refine lv_bipush (v := 53) hx hb dX2_init_322 (by decide) ?_
  refine kz_top (y := nI 53) (by decide) ?_
  refine lv_ldc (v := (-1894986606)) hx hb hown (hts (.constant RX2 60 (-1894986606)) (by decide +kernel)) dX2_init_324 ?_
  refine kz_astK (j := 53) (T := ks_k) hx hb hK hP hD hS 1 0 rfl rfl (by decide) (by decide) (by decide +kernel) dX2_init_326 (fun H locs hP hD hS => ?_)
  have hP : va_P (dC, dI) vwCl [(h, .inr (2, [.null, .null, .null, .null, .null, .null, .int 0, .null, .null, .null, .null, .int 0, .null, .int 0])), (ac, .inl (cJ, 64, .inl (ks_up ks_k 54)))] H := hP
  have hD : va_D A [(h, .inr (2, [.null, .null, .null, .null, .null, .null, .int 0, .null, .null, .null, .null, .int 0, .null, .int 0])), (ac, .inl (cJ, 64, .inl (ks_up ks_k 54)))] := hD
  refine lv_dup hx hb dX2_init_327 rfl ?_
  refine lv_bipush (v := 54) hx hb dX2_init_328 (by decide) ?_
  refine kz_top (y := nI 54) (by decide) ?_
  refine lv_ldc (v := (-1051523)) hx hb hown (hts (.constant RX2 61 (-1051523)) (by decide +kernel)) dX2_init_330 ?_
  refine kz_astK (j := 54) (T := ks_k) hx hb hK hP hD hS 1 0 rfl rfl (by decide) (by decide) (by decide +kernel) dX2_init_332 (fun H locs hP hD hS => ?_)
  have hP : va_P (dC, dI) vwCl [(h, .inr (2, [.null, .null, .null, .null, .null, .null, .int 0, .null, .null, .null, .null, .int 0, .null, .int 0])), (ac, .inl (cJ, 64, .inl (ks_up ks_k 55)))] H := hP
  have hD : va_D A [(h, .inr (2, [.null, .null, .null, .null, .null, .null, .int 0, .null, .null, .null, .null, .int 0, .null, .int 0])), (ac, .inl (cJ, 64, .inl (ks_up ks_k 55)))] := hD
  refine lv_dup hx hb dX2_init_333 rfl ?_
  refine lv_bipush (v := 55) hx hb dX2_init_334 (by decide) ?_
  refine kz_top (y := nI 55) (by decide) ?_
  refine lv_ldc (v := (-2054922799)) hx hb hown (hts (.constant RX2 62 (-2054922799)) (by decide +kernel)) dX2_init_336 ?_
  refine kz_astK (j := 55) (T := ks_k) hx hb hK hP hD hS 1 0 rfl rfl (by decide) (by decide) (by decide +kernel) dX2_init_338 (fun H locs hP hD hS => ?_)
  have hP : va_P (dC, dI) vwCl [(h, .inr (2, [.null, .null, .null, .null, .null, .null, .int 0, .null, .null, .null, .null, .int 0, .null, .int 0])), (ac, .inl (cJ, 64, .inl (ks_up ks_k 56)))] H := hP
  have hD : va_D A [(h, .inr (2, [.null, .null, .null, .null, .null, .null, .int 0, .null, .null, .null, .null, .int 0, .null, .int 0])), (ac, .inl (cJ, 64, .inl (ks_up ks_k 56)))] := hD
  refine lv_dup hx hb dX2_init_339 rfl ?_
  refine lv_bipush (v := 56) hx hb dX2_init_340 (by decide) ?_
  refine kz_top (y := nI 56) (by decide) ?_
  refine lv_ldc (v := (1873313359)) hx hb hown (hts (.constant RX2 63 (1873313359)) (by decide +kernel)) dX2_init_342 ?_
  refine kz_astK (j := 56) (T := ks_k) hx hb hK hP hD hS 1 0 rfl rfl (by decide) (by decide) (by decide +kernel) dX2_init_344 (fun H locs hP hD hS => ?_)
  have hP : va_P (dC, dI) vwCl [(h, .inr (2, [.null, .null, .null, .null, .null, .null, .int 0, .null, .null, .null, .null, .int 0, .null, .int 0])), (ac, .inl (cJ, 64, .inl (ks_up ks_k 57)))] H := hP
  have hD : va_D A [(h, .inr (2, [.null, .null, .null, .null, .null, .null, .int 0, .null, .null, .null, .null, .int 0, .null, .int 0])), (ac, .inl (cJ, 64, .inl (ks_up ks_k 57)))] := hD
  refine lv_dup hx hb dX2_init_345 rfl ?_
  refine lv_bipush (v := 57) hx hb dX2_init_346 (by decide) ?_
  refine kz_top (y := nI 57) (by decide) ?_
  refine lv_ldc (v := (-30611744)) hx hb hown (hts (.constant RX2 64 (-30611744)) (by decide +kernel)) dX2_init_348 ?_
  refine kz_astK (j := 57) (T := ks_k) hx hb hK hP hD hS 1 0 rfl rfl (by decide) (by decide) (by decide +kernel) dX2_init_350 (fun H locs hP hD hS => ?_)
  have hP : va_P (dC, dI) vwCl [(h, .inr (2, [.null, .null, .null, .null, .null, .null, .int 0, .null, .null, .null, .null, .int 0, .null, .int 0])), (ac, .inl (cJ, 64, .inl (ks_up ks_k 58)))] H := hP
  have hD : va_D A [(h, .inr (2, [.null, .null, .null, .null, .null, .null, .int 0, .null, .null, .null, .null, .int 0, .null, .int 0])), (ac, .inl (cJ, 64, .inl (ks_up ks_k 58)))] := hD
  refine lv_dup hx hb dX2_init_351 rfl ?_
  refine lv_bipush (v := 58) hx hb dX2_init_352 (by decide) ?_
  refine kz_top (y := nI 58) (by decide) ?_
  refine lv_ldc (v := (-1560198380)) hx hb hown (hts (.constant RX2 65 (-1560198380)) (by decide +kernel)) dX2_init_354 ?_
  refine kz_astK (j := 58) (T := ks_k) hx hb hK hP hD hS 1 0 rfl rfl (by decide) (by decide) (by decide +kernel) dX2_init_356 (fun H locs hP hD hS => ?_)
  have hP : va_P (dC, dI) vwCl [(h, .inr (2, [.null, .null, .null, .null, .null, .null, .int 0, .null, .null, .null, .null, .int 0, .null, .int 0])), (ac, .inl (cJ, 64, .inl (ks_up ks_k 59)))] H := hP
  have hD : va_D A [(h, .inr (2, [.null, .null, .null, .null, .null, .null, .int 0, .null, .null, .null, .null, .int 0, .null, .int 0])), (ac, .inl (cJ, 64, .inl (ks_up ks_k 59)))] := hD
  refine lv_dup hx hb dX2_init_357 rfl ?_
  refine lv_bipush (v := 59) hx hb dX2_init_358 (by decide) ?_
  refine kz_top (y := nI 59) (by decide) ?_
  refine lv_ldc (v := (1309151649)) hx hb hown (hts (.constant RX2 66 (1309151649)) (by decide +kernel)) dX2_init_360 ?_
  refine kz_astK (j := 59) (T := ks_k) hx hb hK hP hD hS 1 0 rfl rfl (by decide) (by decide) (by decide +kernel) dX2_init_362 (fun H locs hP hD hS => ?_)
  have hP : va_P (dC, dI) vwCl [(h, .inr (2, [.null, .null, .null, .null, .null, .null, .int 0, .null, .null, .null, .null, .int 0, .null, .int 0])), (ac, .inl (cJ, 64, .inl (ks_up ks_k 60)))] H := hP
  have hD : va_D A [(h, .inr (2, [.null, .null, .null, .null, .null, .null, .int 0, .null, .null, .null, .null, .int 0, .null, .int 0])), (ac, .inl (cJ, 64, .inl (ks_up ks_k 60)))] := hD
  refine lv_dup hx hb dX2_init_363 rfl ?_
  refine lv_bipush (v := 60) hx hb dX2_init_364 (by decide) ?_
  refine kz_top (y := nI 60) (by decide) ?_
  refine lv_ldc (v := (-145523070)) hx hb hown (hts (.constant RX2 67 (-145523070)) (by decide +kernel)) dX2_init_366 ?_
  refine kz_astK (j := 60) (T := ks_k) hx hb hK hP hD hS 1 0 rfl rfl (by decide) (by decide) (by decide +kernel) dX2_init_368 (fun H locs hP hD hS => ?_)
  have hP : va_P (dC, dI) vwCl [(h, .inr (2, [.null, .null, .null, .null, .null, .null, .int 0, .null, .null, .null, .null, .int 0, .null, .int 0])), (ac, .inl (cJ, 64, .inl (ks_up ks_k 61)))] H := hP
  have hD : va_D A [(h, .inr (2, [.null, .null, .null, .null, .null, .null, .int 0, .null, .null, .null, .null, .int 0, .null, .int 0])), (ac, .inl (cJ, 64, .inl (ks_up ks_k 61)))] := hD
  refine lv_dup hx hb dX2_init_369 rfl ?_
  refine lv_bipush (v := 61) hx hb dX2_init_370 (by decide) ?_
  refine kz_top (y := nI 61) (by decide) ?_
  refine lv_ldc (v := (-1120210379)) hx hb hown (hts (.constant RX2 68 (-1120210379)) (by decide +kernel)) dX2_init_372 ?_
  refine kz_astK (j := 61) (T := ks_k) hx hb hK hP hD hS 1 0 rfl rfl (by decide) (by decide) (by decide +kernel) dX2_init_374 (fun H locs hP hD hS => ?_)
  have hP : va_P (dC, dI) vwCl [(h, .inr (2, [.null, .null, .null, .null, .null, .null, .int 0, .null, .null, .null, .null, .int 0, .null, .int 0])), (ac, .inl (cJ, 64, .inl (ks_up ks_k 62)))] H := hP
  have hD : va_D A [(h, .inr (2, [.null, .null, .null, .null, .null, .null, .int 0, .null, .null, .null, .null, .int 0, .null, .int 0])), (ac, .inl (cJ, 64, .inl (ks_up ks_k 62)))] := hD
  refine lv_dup hx hb dX2_init_375 rfl ?_
  refine lv_bipush (v := 62) hx hb dX2_init_376 (by decide) ?_
  refine kz_top (y := nI 62) (by decide) ?_
  refine lv_ldc (v := (718787259)) hx hb hown (hts (.constant RX2 69 (718787259)) (by decide +kernel)) dX2_init_378 ?_
  refine kz_astK (j := 62) (T := ks_k) hx hb hK hP hD hS 1 0 rfl rfl (by decide) (by decide) (by decide +kernel) dX2_init_380 (fun H locs hP hD hS => ?_)
  have hP : va_P (dC, dI) vwCl [(h, .inr (2, [.null, .null, .null, .null, .null, .null, .int 0, .null, .null, .null, .null, .int 0, .null, .int 0])), (ac, .inl (cJ, 64, .inl (ks_up ks_k 63)))] H := hP
  have hD : va_D A [(h, .inr (2, [.null, .null, .null, .null, .null, .null, .int 0, .null, .null, .null, .null, .int 0, .null, .int 0])), (ac, .inl (cJ, 64, .inl (ks_up ks_k 63)))] := hD
  refine lv_dup hx hb dX2_init_381 rfl ?_
  refine lv_bipush (v := 63) hx hb dX2_init_382 (by decide) ?_
  refine kz_top (y := nI 63) (by decide) ?_
  refine lv_ldc (v := (-343485551)) hx hb hown (hts (.constant RX2 70 (-343485551)) (by decide +kernel)) dX2_init_384 ?_
  refine kz_astK (j := 63) (T := ks_k) hx hb hK hP hD hS 1 0 rfl rfl (by decide) (by decide) (by decide +kernel) dX2_init_386 (fun H locs hP hD hS => ?_)
  have hP : va_P (dC, dI) vwCl [(h, .inr (2, [.null, .null, .null, .null, .null, .null, .int 0, .null, .null, .null, .null, .int 0, .null, .int 0])), (ac, .inl (cJ, 64, .inl (ks_up ks_k 64)))] H := hP
  have hD : va_D A [(h, .inr (2, [.null, .null, .null, .null, .null, .null, .int 0, .null, .null, .null, .null, .int 0, .null, .int 0])), (ac, .inl (cJ, 64, .inl (ks_up ks_k 64)))] := hD
  rw [ks_up_n (T := ks_k) (k := 64) (fun j hj => ks_getD0 (l := ks_K) rfl hj)] at hP hD
  refine va_putF (D := (dC, dI)) (ci := 2) (v := .ref ac) (ty := .array .int) (C := RX2) (T := TX2) (N := 14) hx hb hts (by decide +kernel) tyX2 tyX2_ok nmX2 hown hK hP hD hS 0 rfl rfl 0 (by decide) (hts (.fieldLink RX2 71 "KeySumsModel" "constant" "[I") (by decide +kernel)) (fun _ h9 => h9) rfl hin rfl (by decide +kernel) rfl rfl (Nat.le_of_ble_eq_true rfl) dX2_init_387 (fun H locs hP hD hS => ?_)
  have hP : va_P (dC, dI) vwCl [(h, .inr (2, [.ref ac, .null, .null, .null, .null, .null, .int 0, .null, .null, .null, .null, .int 0, .null, .int 0])), (ac, .inl (cJ, 64, .inl ks_k))] H := hP
  have hD : va_D A [(h, .inr (2, [.ref ac, .null, .null, .null, .null, .null, .int 0, .null, .null, .null, .null, .int 0, .null, .int 0])), (ac, .inl (cJ, 64, .inl ks_k))] := hD
  refine lv_aload_n hx hb dX2_init_390 rfl (lv_at hl 0 rfl) ?_
  refine lv_bipush (v := 16) hx hb dX2_init_391 (by decide) ?_
  refine va_newa (atype := .int) (ty := .int) (N' := 16) (a0 := (16, .inl (ks_up ks_tt 0))) hx hb (hts (.arrayClass .int) (by decide +kernel)) rfl hK hP hD hS hA (fun cA => by rw [ks_up_0]; rfl) (by decide +kernel) (by decide +kernel) (by decide +kernel) (Nat.le_of_ble_eq_true rfl) (Nat.le_of_ble_eq_true rfl) dX2_init_393 (fun au c2 H hK hP hD hS => ?_)
  have r1 : s.vm.findClass ("[" ++ FieldType.int.toString) = some cJ := (hK.2 0 _ rfl).2
  have r2 : s.vm.findClass ("[" ++ FieldType.int.toString) = some c2 := (hK.2 1 _ rfl).2
  have hc9 : cJ = c2 := Option.some.inj (r1.symm.trans r2)
  subst hc9
  have hK := hK.sub (tys' := [(cJ, .int)]) [0] rfl
  have hP : va_P (dC, dI) vwCl [(h, .inr (2, [.ref ac, .null, .null, .null, .null, .null, .int 0, .null, .null, .null, .null, .int 0, .null, .int 0])), (ac, .inl (cJ, 64, .inl ks_k)), (au, .inl (cJ, 16, .inl (ks_up ks_tt 0)))] H := hP
  have hD : va_D A [(h, .inr (2, [.ref ac, .null, .null, .null, .null, .null, .int 0, .null, .null, .null, .null, .int 0, .null, .int 0])), (ac, .inl (cJ, 64, .inl ks_k)), (au, .inl (cJ, 16, .inl (ks_up ks_tt 0)))] := hD
  have hK : va_K (dC, dI) vwCl [(cJ, .int)] s := hK
  refine W.widen (k := 2) (n := 80) (Nat.le_of_ble_eq_true rfl) (Nat.le_of_ble_eq_true rfl) ?_
  refine lv_dup hx hb dX2_init_395 rfl ?_
  refine lv_iconst (v := 0) hx hb dX2_init_396 (by decide) ?_
  refine kz_top (y := nI 0) (by decide) ?_
  refine lv_bipush (v := 7) hx hb dX2_init_397 (by decide) ?_
  refine kz_astK (j := 0) (T := ks_tt) hx hb hK hP hD hS 2 0 rfl rfl (by decide) (by decide) (by decide +kernel) dX2_init_399 (fun H locs hP hD hS => ?_)
  have hP : va_P (dC, dI) vwCl [(h, .inr (2, [.ref ac, .null, .null, .null, .null, .null, .int 0, .null, .null, .null, .null, .int 0, .null, .int 0])), (ac, .inl (cJ, 64, .inl ks_k)), (au, .inl (cJ, 16, .inl (ks_up ks_tt 1)))] H := hP
  have hD : va_D A [(h, .inr (2, [.ref ac, .null, .null, .null, .null, .null, .int 0, .null, .null, .null, .null, .int 0, .null, .int 0])), (ac, .inl (cJ, 64, .inl ks_k)), (au, .inl (cJ, 16, .inl (ks_up ks_tt 1)))] := hD
  refine lv_dup hx hb dX2_init_400 rfl ?_
  refine lv_iconst (v := 1) hx hb dX2_init_401 (by decide) ?_
  refine kz_top (y := nI 1) (by decide) ?_
  refine lv_bipush (v := 12) hx hb dX2_init_402 (by decide) ?_
  refine kz_astK (j := 1) (T := ks_tt) hx hb hK hP hD hS 2 0 rfl rfl (by decide) (by decide) (by decide +kernel) dX2_init_404 (fun H locs hP hD hS => ?_)
  have hP : va_P (dC, dI) vwCl [(h, .inr (2, [.ref ac, .null, .null, .null, .null, .null, .int 0, .null, .null, .null, .null, .int 0, .null, .int 0])), (ac, .inl (cJ, 64, .inl ks_k)), (au, .inl (cJ, 16, .inl (ks_up ks_tt 2)))] H := hP
  have hD : va_D A [(h, .inr (2, [.ref ac, .null, .null, .null, .null, .null, .int 0, .null, .null, .null, .null, .int 0, .null, .int 0])), (ac, .inl (cJ, 64, .inl ks_k)), (au, .inl (cJ, 16, .inl (ks_up ks_tt 2)))] := hD
  refine lv_dup hx hb dX2_init_405 rfl ?_
  refine lv_iconst (v := 2) hx hb dX2_init_406 (by decide) ?_
  refine kz_top (y := nI 2) (by decide) ?_
  refine lv_bipush (v := 17) hx hb dX2_init_407 (by decide) ?_
  refine kz_astK (j := 2) (T := ks_tt) hx hb hK hP hD hS 2 0 rfl rfl (by decide) (by decide) (by decide +kernel) dX2_init_409 (fun H locs hP hD hS => ?_)
  have hP : va_P (dC, dI) vwCl [(h, .inr (2, [.ref ac, .null, .null, .null, .null, .null, .int 0, .null, .null, .null, .null, .int 0, .null, .int 0])), (ac, .inl (cJ, 64, .inl ks_k)), (au, .inl (cJ, 16, .inl (ks_up ks_tt 3)))] H := hP
  have hD : va_D A [(h, .inr (2, [.ref ac, .null, .null, .null, .null, .null, .int 0, .null, .null, .null, .null, .int 0, .null, .int 0])), (ac, .inl (cJ, 64, .inl ks_k)), (au, .inl (cJ, 16, .inl (ks_up ks_tt 3)))] := hD
  refine lv_dup hx hb dX2_init_410 rfl ?_
  refine lv_iconst (v := 3) hx hb dX2_init_411 (by decide) ?_
  refine kz_top (y := nI 3) (by decide) ?_
  refine lv_bipush (v := 22) hx hb dX2_init_412 (by decide) ?_
  refine kz_astK (j := 3) (T := ks_tt) hx hb hK hP hD hS 2 0 rfl rfl (by decide) (by decide) (by decide +kernel) dX2_init_414 (fun H locs hP hD hS => ?_)
  have hP : va_P (dC, dI) vwCl [(h, .inr (2, [.ref ac, .null, .null, .null, .null, .null, .int 0, .null, .null, .null, .null, .int 0, .null, .int 0])), (ac, .inl (cJ, 64, .inl ks_k)), (au, .inl (cJ, 16, .inl (ks_up ks_tt 4)))] H := hP
  have hD : va_D A [(h, .inr (2, [.ref ac, .null, .null, .null, .null, .null, .int 0, .null, .null, .null, .null, .int 0, .null, .int 0])), (ac, .inl (cJ, 64, .inl ks_k)), (au, .inl (cJ, 16, .inl (ks_up ks_tt 4)))] := hD
  refine lv_dup hx hb dX2_init_415 rfl ?_
  refine lv_iconst (v := 4) hx hb dX2_init_416 (by decide) ?_
  refine kz_top (y := nI 4) (by decide) ?_
  refine lv_iconst (v := 5) hx hb dX2_init_417 (by decide) ?_
  refine kz_astK (j := 4) (T := ks_tt) hx hb hK hP hD hS 2 0 rfl rfl (by decide) (by decide) (by decide +kernel) dX2_init_418 (fun H locs hP hD hS => ?_)
  have hP : va_P (dC, dI) vwCl [(h, .inr (2, [.ref ac, .null, .null, .null, .null, .null, .int 0, .null, .null, .null, .null, .int 0, .null, .int 0])), (ac, .inl (cJ, 64, .inl ks_k)), (au, .inl (cJ, 16, .inl (ks_up ks_tt 5)))] H := hP
  have hD : va_D A [(h, .inr (2, [.ref ac, .null, .null, .null, .null, .null, .int 0, .null, .null, .null, .null, .int 0, .null, .int 0])), (ac, .inl (cJ, 64, .inl ks_k)), (au, .inl (cJ, 16, .inl (ks_up ks_tt 5)))] := hD
  refine lv_dup hx hb dX2_init_419 rfl ?_
  refine lv_iconst (v := 5) hx hb dX2_init_420 (by decide) ?_
  refine kz_top (y := nI 5) (by decide) ?_
  refine lv_bipush (v := 9) hx hb dX2_init_421 (by decide) ?_
  refine kz_astK (j := 5) (T := ks_tt) hx hb hK hP hD hS 2 0 rfl rfl (by decide) (by decide) (by decide +kernel) dX2_init_423 (fun H locs hP hD hS => ?_)
  have hP : va_P (dC, dI) vwCl [(h, .inr (2, [.ref ac, .null, .null, .null, .null, .null, .int 0, .null, .null, .null, .null, .int 0, .null, .int 0])), (ac, .inl (cJ, 64, .inl ks_k)), (au, .inl (cJ, 16, .inl (ks_up ks_tt 6)))] H := hP
  have hD : va_D A [(h, .inr (2, [.ref ac, .null, .null, .null, .null, .null, .int 0, .null, .null, .null, .null, .int 0, .null, .int 0])), (ac, .inl (cJ, 64, .inl ks_k)), (au, .inl (cJ, 16, .inl (ks_up ks_tt 6)))] := hD
  refine lv_dup hx hb dX2_init_424 rfl ?_
  refine lv_bipush (v := 6) hx hb dX2_init_425 (by decide) ?_
  refine kz_top (y := nI 6) (by decide) ?_
  refine lv_bipush (v := 14) hx hb dX2_init_427 (by decide) ?_
  refine kz_astK (j := 6) (T := ks_tt) hx hb hK hP hD hS 2 0 rfl rfl (by decide) (by decide) (by decide +kernel) dX2_init_429 (fun H locs hP hD hS => ?_)
  have hP : va_P (dC, dI) vwCl [(h, .inr (2, [.ref ac, .null, .null, .null, .null, .null, .int 0, .null, .null, .null, .null, .int 0, .null, .int 0])), (ac, .inl (cJ, 64, .inl ks_k)), (au, .inl (cJ, 16, .inl (ks_up ks_tt 7)))] H := hP
  have hD : va_D A [(h, .inr (2, [.ref ac, .null, .null, .null, .null, .null, .int 0, .null, .null, .null, .null, .int 0, .null, .int 0])), (ac, .inl (cJ, 64, .inl ks_k)), (au, .inl (cJ, 16, .inl (ks_up ks_tt 7)))] := hD
  refine lv_dup hx hb dX2_init_430 rfl ?_
  refine lv_bipush (v := 7) hx hb dX2_init_431 (by decide) ?_
  refine kz_top (y := nI 7) (by decide) ?_
  refine lv_bipush (v := 20) hx hb dX2_init_433 (by decide) ?_
  refine kz_astK (j := 7) (T := ks_tt) hx hb hK hP hD hS 2 0 rfl rfl (by decide) (by decide) (by decide +kernel) dX2_init_435 (fun H locs hP hD hS => ?_)
  have hP : va_P (dC, dI) vwCl [(h, .inr (2, [.ref ac, .null, .null, .null, .null, .null, .int 0, .null, .null, .null, .null, .int 0, .null, .int 0])), (ac, .inl (cJ, 64, .inl ks_k)), (au, .inl (cJ, 16, .inl (ks_up ks_tt 8)))] H := hP
  have hD : va_D A [(h, .inr (2, [.ref ac, .null, .null, .null, .null, .null, .int 0, .null, .null, .null, .null, .int 0, .null, .int 0])), (ac, .inl (cJ, 64, .inl ks_k)), (au, .inl (cJ, 16, .inl (ks_up ks_tt 8)))] := hD
  refine lv_dup hx hb dX2_init_436 rfl ?_
  refine lv_bipush (v := 8) hx hb dX2_init_437 (by decide) ?_
  refine kz_top (y := nI 8) (by decide) ?_
  refine lv_iconst (v := 4) hx hb dX2_init_439 (by decide) ?_
  refine kz_astK (j := 8) (T := ks_tt) hx hb hK hP hD hS 2 0 rfl rfl (by decide) (by decide) (by decide +kernel) dX2_init_440 (fun H locs hP hD hS => ?_)
  have hP : va_P (dC, dI) vwCl [(h, .inr (2, [.ref ac, .null, .null, .null, .null, .null, .int 0, .null, .null, .null, .null, .int 0, .null, .int 0])), (ac, .inl (cJ, 64, .inl ks_k)), (au, .inl (cJ, 16, .inl (ks_up ks_tt 9)))] H := hP
  have hD : va_D A [(h, .inr (2, [.ref ac, .null, .null, .null, .null, .null, .int 0, .null, .null, .null, .null, .int 0, .null, .int 0])), (ac, .inl (cJ, 64, .inl ks_k)), (au, .inl (cJ, 16, .inl (ks_up ks_tt 9)))] := hD
  refine lv_dup hx hb dX2_init_441 rfl ?_
  refine lv_bipush (v := 9) hx hb dX2_init_442 (by decide) ?_
  refine kz_top (y := nI 9) (by decide) ?_
  refine lv_bipush (v := 11) hx hb dX2_init_444 (by decide) ?_
  refine kz_astK (j := 9) (T := ks_tt) hx hb hK hP hD hS 2 0 rfl rfl (by decide) (by decide) (by decide +kernel) dX2_init_446 (fun H locs hP hD hS => ?_)
  have hP : va_P (dC, dI) vwCl [(h, .inr (2, [.ref ac, .null, .null, .null, .null, .null, .int 0, .null, .null, .null, .null, .int 0, .null, .int 0])), (ac, .inl (cJ, 64, .inl ks_k)), (au, .inl (cJ, 16, .inl (ks_up ks_tt 10)))] H := hP
  have hD : va_D A [(h, .inr (2, [.ref ac, .null, .null, .null, .null, .null, .int 0, .null, .null, .null, .null, .int 0, .null, .int 0])), (ac, .inl (cJ, 64, .inl ks_k)), (au, .inl (cJ, 16, .inl (ks_up ks_tt 10)))] := hD
  refine lv_dup hx hb dX2_init_447 rfl ?_
  refine lv_bipush (v := 10) hx hb dX2_init_448 (by decide) ?_
  refine kz_top (y := nI 10) (by decide) ?_
  refine lv_bipush (v := 16) hx hb dX2_init_450 (by decide) ?_
  refine kz_astK (j := 10) (T := ks_tt) hx hb hK hP hD hS 2 0 rfl rfl (by decide) (by decide) (by decide +kernel) dX2_init_452 (fun H locs hP hD hS => ?_)
  have hP : va_P (dC, dI) vwCl [(h, .inr (2, [.ref ac, .null, .null, .null, .null, .null, .int 0, .null, .null, .null, .null, .int 0, .null, .int 0])), (ac, .inl (cJ, 64, .inl ks_k)), (au, .inl (cJ, 16, .inl (ks_up ks_tt 11)))] H := hP
  have hD : va_D A [(h, .inr (2, [.ref ac, .null, .null, .null, .null, .null, .int 0, .null, .null, .null, .null, .int 0, .null, .int 0])), (ac, .inl (cJ, 64, .inl ks_k)), (au, .inl (cJ, 16, .inl (ks_up ks_tt 11)))] := hD
  refine lv_dup hx hb dX2_init_453 rfl ?_
  refine lv_bipush (v := 11) hx hb dX2_init_454 (by decide) ?_
  refine kz_top (y := nI 11) (by decide) ?_
  refine lv_bipush (v := 23) hx hb dX2_init_456 (by decide) ?_
  refine kz_astK (j := 11) (T := ks_tt) hx hb hK hP hD hS 2 0 rfl rfl (by decide) (by decide) (by decide +kernel) dX2_init_458 (fun H locs hP hD hS => ?_)
  have hP : va_P (dC, dI) vwCl [(h, .inr (2, [.ref ac, .null, .null, .null, .null, .null, .int 0, .null, .null, .null, .null, .int 0, .null, .int 0])), (ac, .inl (cJ, 64, .inl ks_k)), (au, .inl (cJ, 16, .inl (ks_up ks_tt 12)))] H := hP
  have hD : va_D A [(h, .inr (2, [.ref ac, .null, .null, .null, .null, .null, .int 0, .null, .null, .null, .null, .int 0, .null, .int 0])), (ac, .inl (cJ, 64, .inl ks_k)), (au, .inl (cJ, 16, .inl (ks_up ks_tt 12)))] := hD
  refine lv_dup hx hb dX2_init_459 rfl ?_
  refine lv_bipush (v := 12) hx hb dX2_init_460 (by decide) ?_
  refine kz_top (y := nI 12) (by decide) ?_
  refine lv_bipush (v := 6) hx hb dX2_init_462 (by decide) ?_
  refine kz_astK (j := 12) (T := ks_tt) hx hb hK hP hD hS 2 0 rfl rfl (by decide) (by decide) (by decide +kernel) dX2_init_464 (fun H locs hP hD hS => ?_)
  have hP : va_P (dC, dI) vwCl [(h, .inr (2, [.ref ac, .null, .null, .null, .null, .null, .int 0, .null, .null, .null, .null, .int 0, .null, .int 0])), (ac, .inl (cJ, 64, .inl ks_k)), (au, .inl (cJ, 16, .inl (ks_up ks_tt 13)))] H := hP
  have hD : va_D A [(h, .inr (2, [.ref ac, .null, .null, .null, .null, .null, .int 0, .null, .null, .null, .null, .int 0, .null, .int 0])), (ac, .inl (cJ, 64, .inl ks_k)), (au, .inl (cJ, 16, .inl (ks_up ks_tt 13)))] := hD
  refine lv_dup hx hb dX2_init_465 rfl ?_
  refine lv_bipush (v := 13) hx hb dX2_init_466 (by decide) ?_
  refine kz_top (y := nI 13) (by decide) ?_
  refine lv_bipush (v := 10) hx hb dX2_init_468 (by decide) ?_
  refine kz_astK (j := 13) (T := ks_tt) hx hb hK hP hD hS 2 0 rfl rfl (by decide) (by decide) (by decide +kernel) dX2_init_470 (fun H locs hP hD hS => ?_)
  have hP : va_P (dC, dI) vwCl [(h, .inr (2, [.ref ac, .null, .null, .null, .null, .null, .int 0, .null, .null, .null, .null, .int 0, .null, .int 0])), (ac, .inl (cJ, 64, .inl ks_k)), (au, .inl (cJ, 16, .inl (ks_up ks_tt 14)))] H := hP
  have hD : va_D A [(h, .inr (2, [.ref ac, .null, .null, .null, .null, .null, .int 0, .null, .null, .null, .null, .int 0, .null, .int 0])), (ac, .inl (cJ, 64, .inl ks_k)), (au, .inl (cJ, 16, .inl (ks_up ks_tt 14)))] := hD
  refine lv_dup hx hb dX2_init_471 rfl ?_
  refine lv_bipush (v := 14) hx hb dX2_init_472 (by decide) ?_
  refine kz_top (y := nI 14) (by decide) ?_
  refine lv_bipush (v := 15) hx hb dX2_init_474 (by decide) ?_
  refine kz_astK (j := 14) (T := ks_tt) hx hb hK hP hD hS 2 0 rfl rfl (by decide) (by decide) (by decide +kernel) dX2_init_476 (fun H locs hP hD hS => ?_)
  have hP : va_P (dC, dI) vwCl [(h, .inr (2, [.ref ac, .null, .null, .null, .null, .null, .int 0, .null, .null, .null, .null, .int 0, .null, .int 0])), (ac, .inl (cJ, 64, .inl ks_k)), (au, .inl (cJ, 16, .inl (ks_up ks_tt 15)))] H := hP
  have hD : va_D A [(h, .inr (2, [.ref ac, .null, .null, .null, .null, .null, .int 0, .null, .null, .null, .null, .int 0, .null, .int 0])), (ac, .inl (cJ, 64, .inl ks_k)), (au, .inl (cJ, 16, .inl (ks_up ks_tt 15)))] := hD
  refine lv_dup hx hb dX2_init_477 rfl ?_
  refine lv_bipush (v := 15) hx hb dX2_init_478 (by decide) ?_
  refine kz_top (y := nI 15) (by decide) ?_
  refine lv_bipush (v := 21) hx hb dX2_init_480 (by decide) ?_
  refine kz_astK (j := 15) (T := ks_tt) hx hb hK hP hD hS 2 0 rfl rfl (by decide) (by decide) (by decide +kernel) dX2_init_482 (fun H locs hP hD hS => ?_)
  have hP : va_P (dC, dI) vwCl [(h, .inr (2, [.ref ac, .null, .null, .null, .null, .null, .int 0, .null, .null, .null, .null, .int 0, .null, .int 0])), (ac, .inl (cJ, 64, .inl ks_k)), (au, .inl (cJ, 16, .inl (ks_up ks_tt 16)))] H := hP
  have hD : va_D A [(h, .inr (2, [.ref ac, .null, .null, .null, .null, .null, .int 0, .null, .null, .null, .null, .int 0, .null, .int 0])), (ac, .inl (cJ, 64, .inl ks_k)), (au, .inl (cJ, 16, .inl (ks_up ks_tt 16)))] := hD
  rw [ks_up_n (T := ks_tt) (k := 16) (fun j hj => ks_getD0 (l := ks_TT) rfl hj)] at hP hD
  refine va_putF (D := (dC, dI)) (ci := 2) (v := .ref au) (ty := .array .int) (C := RX2) (T := TX2) (N := 14) hx hb hts (by decide +kernel) tyX2 tyX2_ok nmX2 hown hK hP hD hS 0 rfl rfl 1 (by decide) (hts (.fieldLink RX2 77 "KeySumsModel" "turns" "[I") (by decide +kernel)) (fun _ h9 => h9) rfl hin rfl (by decide +kernel) rfl rfl (Nat.le_of_ble_eq_true rfl) dX2_init_483 (fun H locs hP hD hS => ?_)
  have hP : va_P (dC, dI) vwCl [(h, .inr (2, [.ref ac, .ref au, .null, .null, .null, .null, .int 0, .null, .null, .null, .null, .int 0, .null, .int 0])), (ac, .inl (cJ, 64, .inl ks_k)), (au, .inl (cJ, 16, .inl ks_tt))] H := hP
  have hD : va_D A [(h, .inr (2, [.ref ac, .ref au, .null, .null, .null, .null, .int 0, .null, .null, .null, .null, .int 0, .null, .int 0])), (ac, .inl (cJ, 64, .inl ks_k)), (au, .inl (cJ, 16, .inl ks_tt))] := hD
  refine lv_aload_n hx hb dX2_init_486 rfl (lv_at hl 0 rfl) ?_
  refine lv_iconst (v := 4) hx hb dX2_init_487 (by decide) ?_
  refine va_newa (atype := .int) (ty := .int) (N' := 4) (a0 := (4, .inl (ks_up ks_begI 0))) hx hb (hts (.arrayClass .int) (by decide +kernel)) rfl hK hP hD hS hA (fun cA => by rw [ks_up_0]; rfl) (by decide +kernel) (by decide +kernel) (by decide +kernel) (Nat.le_of_ble_eq_true rfl) (Nat.le_of_ble_eq_true rfl) dX2_init_488 (fun ab c2 H hK hP hD hS => ?_)
  have r1 : s.vm.findClass ("[" ++ FieldType.int.toString) = some cJ := (hK.2 0 _ rfl).2
  have r2 : s.vm.findClass ("[" ++ FieldType.int.toString) = some c2 := (hK.2 1 _ rfl).2
  have hc9 : cJ = c2 := Option.some.inj (r1.symm.trans r2)
  subst hc9
  have hK := hK.sub (tys' := [(cJ, .int)]) [0] rfl
  have hP : va_P (dC, dI) vwCl [(h, .inr (2, [.ref ac, .ref au, .null, .null, .null, .null, .int 0, .null, .null, .null, .null, .int 0, .null, .int 0])), (ac, .inl (cJ, 64, .inl ks_k)), (au, .inl (cJ, 16, .inl ks_tt)), (ab, .inl (cJ, 4, .inl (ks_up ks_begI 0)))] H := hP
  have hD : va_D A [(h, .inr (2, [.ref ac, .ref au, .null, .null, .null, .null, .int 0, .null, .null, .null, .null, .int 0, .null, .int 0])), (ac, .inl (cJ, 64, .inl ks_k)), (au, .inl (cJ, 16, .inl ks_tt)), (ab, .inl (cJ, 4, .inl (ks_up ks_begI 0)))] := hD
  have hK : va_K (dC, dI) vwCl [(cJ, .int)] s := hK
  refine W.widen (k := 3) (n := 84) (Nat.le_of_ble_eq_true rfl) (Nat.le_of_ble_eq_true rfl) ?_
  refine lv_dup hx hb dX2_init_490 rfl ?_
  refine lv_iconst (v := 0) hx hb dX2_init_491 (by decide) ?_
  refine kz_top (y := nI 0) (by decide) ?_
  refine lv_ldc (v := (1732584193)) hx hb hown (hts (.constant RX2 80 (1732584193)) (by decide +kernel)) dX2_init_492 ?_
  refine kz_astK (j := 0) (T := ks_begI) hx hb hK hP hD hS 3 0 rfl rfl (by decide) (by decide) (by decide +kernel) dX2_init_494 (fun H locs hP hD hS => ?_)
  have hP : va_P (dC, dI) vwCl [(h, .inr (2, [.ref ac, .ref au, .null, .null, .null, .null, .int 0, .null, .null, .null, .null, .int 0, .null, .int 0])), (ac, .inl (cJ, 64, .inl ks_k)), (au, .inl (cJ, 16, .inl ks_tt)), (ab, .inl (cJ, 4, .inl (ks_up ks_begI 1)))] H := hP
  have hD : va_D A [(h, .inr (2, [.ref ac, .ref au, .null, .null, .null, .null, .int 0, .null, .null, .null, .null, .int 0, .null, .int 0])), (ac, .inl (cJ, 64, .inl ks_k)), (au, .inl (cJ, 16, .inl ks_tt)), (ab, .inl (cJ, 4, .inl (ks_up ks_begI 1)))] := hD
  refine lv_dup hx hb dX2_init_495 rfl ?_
  refine lv_iconst (v := 1) hx hb dX2_init_496 (by decide) ?_
  refine kz_top (y := nI 1) (by decide) ?_
  refine lv_ldc (v := (-271733879)) hx hb hown (hts (.constant RX2 81 (-271733879)) (by decide +kernel)) dX2_init_497 ?_
  refine kz_astK (j := 1) (T := ks_begI) hx hb hK hP hD hS 3 0 rfl rfl (by decide) (by decide) (by decide +kernel) dX2_init_499 (fun H locs hP hD hS => ?_)
  have hP : va_P (dC, dI) vwCl [(h, .inr (2, [.ref ac, .ref au, .null, .null, .null, .null, .int 0, .null, .null, .null, .null, .int 0, .null, .int 0])), (ac, .inl (cJ, 64, .inl ks_k)), (au, .inl (cJ, 16, .inl ks_tt)), (ab, .inl (cJ, 4, .inl (ks_up ks_begI 2)))] H := hP
  have hD : va_D A [(h, .inr (2, [.ref ac, .ref au, .null, .null, .null, .null, .int 0, .null, .null, .null, .null, .int 0, .null, .int 0])), (ac, .inl (cJ, 64, .inl ks_k)), (au, .inl (cJ, 16, .inl ks_tt)), (ab, .inl (cJ, 4, .inl (ks_up ks_begI 2)))] := hD
  refine lv_dup hx hb dX2_init_500 rfl ?_
  refine lv_iconst (v := 2) hx hb dX2_init_501 (by decide) ?_
  refine kz_top (y := nI 2) (by decide) ?_
  refine lv_ldc (v := (-1732584194)) hx hb hown (hts (.constant RX2 82 (-1732584194)) (by decide +kernel)) dX2_init_502 ?_
  refine kz_astK (j := 2) (T := ks_begI) hx hb hK hP hD hS 3 0 rfl rfl (by decide) (by decide) (by decide +kernel) dX2_init_504 (fun H locs hP hD hS => ?_)
  have hP : va_P (dC, dI) vwCl [(h, .inr (2, [.ref ac, .ref au, .null, .null, .null, .null, .int 0, .null, .null, .null, .null, .int 0, .null, .int 0])), (ac, .inl (cJ, 64, .inl ks_k)), (au, .inl (cJ, 16, .inl ks_tt)), (ab, .inl (cJ, 4, .inl (ks_up ks_begI 3)))] H := hP
  have hD : va_D A [(h, .inr (2, [.ref ac, .ref au, .null, .null, .null, .null, .int 0, .null, .null, .null, .null, .int 0, .null, .int 0])), (ac, .inl (cJ, 64, .inl ks_k)), (au, .inl (cJ, 16, .inl ks_tt)), (ab, .inl (cJ, 4, .inl (ks_up ks_begI 3)))] := hD
  refine lv_dup hx hb dX2_init_505 rfl ?_
  refine lv_iconst (v := 3) hx hb dX2_init_506 (by decide) ?_
  refine kz_top (y := nI 3) (by decide) ?_
  refine lv_ldc (v := (271733878)) hx hb hown (hts (.constant RX2 83 (271733878)) (by decide +kernel)) dX2_init_507 ?_
  refine kz_astK (j := 3) (T := ks_begI) hx hb hK hP hD hS 3 0 rfl rfl (by decide) (by decide) (by decide +kernel) dX2_init_509 (fun H locs hP hD hS => ?_)
  have hP : va_P (dC, dI) vwCl [(h, .inr (2, [.ref ac, .ref au, .null, .null, .null, .null, .int 0, .null, .null, .null, .null, .int 0, .null, .int 0])), (ac, .inl (cJ, 64, .inl ks_k)), (au, .inl (cJ, 16, .inl ks_tt)), (ab, .inl (cJ, 4, .inl (ks_up ks_begI 4)))] H := hP
  have hD : va_D A [(h, .inr (2, [.ref ac, .ref au, .null, .null, .null, .null, .int 0, .null, .null, .null, .null, .int 0, .null, .int 0])), (ac, .inl (cJ, 64, .inl ks_k)), (au, .inl (cJ, 16, .inl ks_tt)), (ab, .inl (cJ, 4, .inl (ks_up ks_begI 4)))] := hD
  rw [ks_up_n (T := ks_begI) (k := 4) (fun j hj => ks_getD0 rfl hj)] at hP hD
  refine va_putF (D := (dC, dI)) (ci := 2) (v := .ref ab) (ty := .array .int) (C := RX2) (T := TX2) (N := 14) hx hb hts (by decide +kernel) tyX2 tyX2_ok nmX2 hown hK hP hD hS 0 rfl rfl 2 (by decide) (hts (.fieldLink RX2 84 "KeySumsModel" "begin" "[I") (by decide +kernel)) (fun _ h9 => h9) rfl hin rfl (by decide +kernel) rfl rfl (Nat.le_of_ble_eq_true rfl) dX2_init_510 (fun H locs hP hD hS => ?_)
  have hP : va_P (dC, dI) vwCl [(h, .inr (2, [.ref ac, .ref au, .ref ab, .null, .null, .null, .int 0, .null, .null, .null, .null, .int 0, .null, .int 0])), (ac, .inl (cJ, 64, .inl ks_k)), (au, .inl (cJ, 16, .inl ks_tt)), (ab, .inl (cJ, 4, .inl ks_begI))] H := hP
  have hD : va_D A [(h, .inr (2, [.ref ac, .ref au, .ref ab, .null, .null, .null, .int 0, .null, .null, .null, .null, .int 0, .null, .int 0])), (ac, .inl (cJ, 64, .inl ks_k)), (au, .inl (cJ, 16, .inl ks_tt)), (ab, .inl (cJ, 4, .inl ks_begI))] := hD
  refine lv_aload_n hx hb dX2_init_513 rfl (lv_at hl 0 rfl) ?_
  refine lv_iconst (v := 4) hx hb dX2_init_514 (by decide) ?_
  refine va_newa (atype := .int) (ty := .int) (N' := 4) (a0 := (4, .inl (ks_up ks_tmI 0))) hx hb (hts (.arrayClass .int) (by decide +kernel)) rfl hK hP hD hS hA (fun cA => by rw [ks_up_0]; rfl) (by decide +kernel) (by decide +kernel) (by decide +kernel) (Nat.le_of_ble_eq_true rfl) (Nat.le_of_ble_eq_true rfl) dX2_init_515 (fun ae c2 H hK hP hD hS => ?_)
  have r1 : s.vm.findClass ("[" ++ FieldType.int.toString) = some cJ := (hK.2 0 _ rfl).2
  have r2 : s.vm.findClass ("[" ++ FieldType.int.toString) = some c2 := (hK.2 1 _ rfl).2
  have hc9 : cJ = c2 := Option.some.inj (r1.symm.trans r2)
  subst hc9
  have hK := hK.sub (tys' := [(cJ, .int)]) [0] rfl
  have hP : va_P (dC, dI) vwCl [(h, .inr (2, [.ref ac, .ref au, .ref ab, .null, .null, .null, .int 0, .null, .null, .null, .null, .int 0, .null, .int 0])), (ac, .inl (cJ, 64, .inl ks_k)), (au, .inl (cJ, 16, .inl ks_tt)), (ab, .inl (cJ, 4, .inl ks_begI)), (ae, .inl (cJ, 4, .inl (ks_up ks_tmI 0)))] H := hP
  have hD : va_D A [(h, .inr (2, [.ref ac, .ref au, .ref ab, .null, .null, .null, .int 0, .null, .null, .null, .null, .int 0, .null, .int 0])), (ac, .inl (cJ, 64, .inl ks_k)), (au, .inl (cJ, 16, .inl ks_tt)), (ab, .inl (cJ, 4, .inl ks_begI)), (ae, .inl (cJ, 4, .inl (ks_up ks_tmI 0)))] := hD
  have hK : va_K (dC, dI) vwCl [(cJ, .int)] s := hK
  refine W.widen (k := 4) (n := 88) (Nat.le_of_ble_eq_true rfl) (Nat.le_of_ble_eq_true rfl) ?_
  refine lv_dup hx hb dX2_init_517 rfl ?_
  refine lv_iconst (v := 0) hx hb dX2_init_518 (by decide) ?_
  refine kz_top (y := nI 0) (by decide) ?_
  refine lv_iconst (v := 1) hx hb dX2_init_519 (by decide) ?_
  refine kz_astK (j := 0) (T := ks_tmI) hx hb hK hP hD hS 4 0 rfl rfl (by decide) (by decide) (by decide +kernel) dX2_init_520 (fun H locs hP hD hS => ?_)
  have hP : va_P (dC, dI) vwCl [(h, .inr (2, [.ref ac, .ref au, .ref ab, .null, .null, .null, .int 0, .null, .null, .null, .null, .int 0, .null, .int 0])), (ac, .inl (cJ, 64, .inl ks_k)), (au, .inl (cJ, 16, .inl ks_tt)), (ab, .inl (cJ, 4, .inl ks_begI)), (ae, .inl (cJ, 4, .inl (ks_up ks_tmI 1)))] H := hP
  have hD : va_D A [(h, .inr (2, [.ref ac, .ref au, .ref ab, .null, .null, .null, .int 0, .null, .null, .null, .null, .int 0, .null, .int 0])), (ac, .inl (cJ, 64, .inl ks_k)), (au, .inl (cJ, 16, .inl ks_tt)), (ab, .inl (cJ, 4, .inl ks_begI)), (ae, .inl (cJ, 4, .inl (ks_up ks_tmI 1)))] := hD
  refine lv_dup hx hb dX2_init_521 rfl ?_
  refine lv_iconst (v := 1) hx hb dX2_init_522 (by decide) ?_
  refine kz_top (y := nI 1) (by decide) ?_
  refine lv_iconst (v := 5) hx hb dX2_init_523 (by decide) ?_
  refine kz_astK (j := 1) (T := ks_tmI) hx hb hK hP hD hS 4 0 rfl rfl (by decide) (by decide) (by decide +kernel) dX2_init_524 (fun H locs hP hD hS => ?_)
  have hP : va_P (dC, dI) vwCl [(h, .inr (2, [.ref ac, .ref au, .ref ab, .null, .null, .null, .int 0, .null, .null, .null, .null, .int 0, .null, .int 0])), (ac, .inl (cJ, 64, .inl ks_k)), (au, .inl (cJ, 16, .inl ks_tt)), (ab, .inl (cJ, 4, .inl ks_begI)), (ae, .inl (cJ, 4, .inl (ks_up ks_tmI 2)))] H := hP
  have hD : va_D A [(h, .inr (2, [.ref ac, .ref au, .ref ab, .null, .null, .null, .int 0, .null, .null, .null, .null, .int 0, .null, .int 0])), (ac, .inl (cJ, 64, .inl ks_k)), (au, .inl (cJ, 16, .inl ks_tt)), (ab, .inl (cJ, 4, .inl ks_begI)), (ae, .inl (cJ, 4, .inl (ks_up ks_tmI 2)))] := hD
  refine lv_dup hx hb dX2_init_525 rfl ?_
  refine lv_iconst (v := 2) hx hb dX2_init_526 (by decide) ?_
  refine kz_top (y := nI 2) (by decide) ?_
  refine lv_iconst (v := 3) hx hb dX2_init_527 (by decide) ?_
  refine kz_astK (j := 2) (T := ks_tmI) hx hb hK hP hD hS 4 0 rfl rfl (by decide) (by decide) (by decide +kernel) dX2_init_528 (fun H locs hP hD hS => ?_)
  have hP : va_P (dC, dI) vwCl [(h, .inr (2, [.ref ac, .ref au, .ref ab, .null, .null, .null, .int 0, .null, .null, .null, .null, .int 0, .null, .int 0])), (ac, .inl (cJ, 64, .inl ks_k)), (au, .inl (cJ, 16, .inl ks_tt)), (ab, .inl (cJ, 4, .inl ks_begI)), (ae, .inl (cJ, 4, .inl (ks_up ks_tmI 3)))] H := hP
  have hD : va_D A [(h, .inr (2, [.ref ac, .ref au, .ref ab, .null, .null, .null, .int 0, .null, .null, .null, .null, .int 0, .null, .int 0])), (ac, .inl (cJ, 64, .inl ks_k)), (au, .inl (cJ, 16, .inl ks_tt)), (ab, .inl (cJ, 4, .inl ks_begI)), (ae, .inl (cJ, 4, .inl (ks_up ks_tmI 3)))] := hD
  refine lv_dup hx hb dX2_init_529 rfl ?_
  refine lv_iconst (v := 3) hx hb dX2_init_530 (by decide) ?_
  refine kz_top (y := nI 3) (by decide) ?_
  refine lv_bipush (v := 7) hx hb dX2_init_531 (by decide) ?_
  refine kz_astK (j := 3) (T := ks_tmI) hx hb hK hP hD hS 4 0 rfl rfl (by decide) (by decide) (by decide +kernel) dX2_init_533 (fun H locs hP hD hS => ?_)
  have hP : va_P (dC, dI) vwCl [(h, .inr (2, [.ref ac, .ref au, .ref ab, .null, .null, .null, .int 0, .null, .null, .null, .null, .int 0, .null, .int 0])), (ac, .inl (cJ, 64, .inl ks_k)), (au, .inl (cJ, 16, .inl ks_tt)), (ab, .inl (cJ, 4, .inl ks_begI)), (ae, .inl (cJ, 4, .inl (ks_up ks_tmI 4)))] H := hP
  have hD : va_D A [(h, .inr (2, [.ref ac, .ref au, .ref ab, .null, .null, .null, .int 0, .null, .null, .null, .null, .int 0, .null, .int 0])), (ac, .inl (cJ, 64, .inl ks_k)), (au, .inl (cJ, 16, .inl ks_tt)), (ab, .inl (cJ, 4, .inl ks_begI)), (ae, .inl (cJ, 4, .inl (ks_up ks_tmI 4)))] := hD
  rw [ks_up_n (T := ks_tmI) (k := 4) (fun j hj => ks_nat0 rfl hj)] at hP hD
  refine va_putF (D := (dC, dI)) (ci := 2) (v := .ref ae) (ty := .array .int) (C := RX2) (T := TX2) (N := 14) hx hb hts (by decide +kernel) tyX2 tyX2_ok nmX2 hown hK hP hD hS 0 rfl rfl 3 (by decide) (hts (.fieldLink RX2 87 "KeySumsModel" "times" "[I") (by decide +kernel)) (fun _ h9 => h9) rfl hin rfl (by decide +kernel) rfl rfl (Nat.le_of_ble_eq_true rfl) dX2_init_534 (fun H locs hP hD hS => ?_)
  have hP : va_P (dC, dI) vwCl [(h, .inr (2, [.ref ac, .ref au, .ref ab, .ref ae, .null, .null, .int 0, .null, .null, .null, .null, .int 0, .null, .int 0])), (ac, .inl (cJ, 64, .inl ks_k)), (au, .inl (cJ, 16, .inl ks_tt)), (ab, .inl (cJ, 4, .inl ks_begI)), (ae, .inl (cJ, 4, .inl ks_tmI))] H := hP
  have hD : va_D A [(h, .inr (2, [.ref ac, .ref au, .ref ab, .ref ae, .null, .null, .int 0, .null, .null, .null, .null, .int 0, .null, .int 0])), (ac, .inl (cJ, 64, .inl ks_k)), (au, .inl (cJ, 16, .inl ks_tt)), (ab, .inl (cJ, 4, .inl ks_begI)), (ae, .inl (cJ, 4, .inl ks_tmI))] := hD
  refine lv_aload_n hx hb dX2_init_537 rfl (lv_at hl 0 rfl) ?_
  refine lv_iconst (v := 4) hx hb dX2_init_538 (by decide) ?_
  refine va_newa (atype := .int) (ty := .int) (N' := 4) (a0 := (4, .inl (ks_up ks_moI 0))) hx hb (hts (.arrayClass .int) (by decide +kernel)) rfl hK hP hD hS hA (fun cA => by rw [ks_up_0]; rfl) (by decide +kernel) (by decide +kernel) (by decide +kernel) (Nat.le_of_ble_eq_true rfl) (Nat.le_of_ble_eq_true rfl) dX2_init_539 (fun am c2 H hK hP hD hS => ?_)
  have r1 : s.vm.findClass ("[" ++ FieldType.int.toString) = some cJ := (hK.2 0 _ rfl).2
  have r2 : s.vm.findClass ("[" ++ FieldType.int.toString) = some c2 := (hK.2 1 _ rfl).2
  have hc9 : cJ = c2 := Option.some.inj (r1.symm.trans r2)
  subst hc9
  have hK := hK.sub (tys' := [(cJ, .int)]) [0] rfl
  have hP : va_P (dC, dI) vwCl [(h, .inr (2, [.ref ac, .ref au, .ref ab, .ref ae, .null, .null, .int 0, .null, .null, .null, .null, .int 0, .null, .int 0])), (ac, .inl (cJ, 64, .inl ks_k)), (au, .inl (cJ, 16, .inl ks_tt)), (ab, .inl (cJ, 4, .inl ks_begI)), (ae, .inl (cJ, 4, .inl ks_tmI)), (am, .inl (cJ, 4, .inl (ks_up ks_moI 0)))] H := hP
  have hD : va_D A [(h, .inr (2, [.ref ac, .ref au, .ref ab, .ref ae, .null, .null, .int 0, .null, .null, .null, .null, .int 0, .null, .int 0])), (ac, .inl (cJ, 64, .inl ks_k)), (au, .inl (cJ, 16, .inl ks_tt)), (ab, .inl (cJ, 4, .inl ks_begI)), (ae, .inl (cJ, 4, .inl ks_tmI)), (am, .inl (cJ, 4, .inl (ks_up ks_moI 0)))] := hD
  have hK : va_K (dC, dI) vwCl [(cJ, .int)] s := hK
  refine W.widen (k := 5) (n := 92) (Nat.le_of_ble_eq_true rfl) (Nat.le_of_ble_eq_true rfl) ?_
  refine lv_dup hx hb dX2_init_541 rfl ?_
  refine lv_iconst (v := 0) hx hb dX2_init_542 (by decide) ?_
  refine kz_top (y := nI 0) (by decide) ?_
  refine lv_iconst (v := 0) hx hb dX2_init_543 (by decide) ?_
  refine kz_astK (j := 0) (T := ks_moI) hx hb hK hP hD hS 5 0 rfl rfl (by decide) (by decide) (by decide +kernel) dX2_init_544 (fun H locs hP hD hS => ?_)
  have hP : va_P (dC, dI) vwCl [(h, .inr (2, [.ref ac, .ref au, .ref ab, .ref ae, .null, .null, .int 0, .null, .null, .null, .null, .int 0, .null, .int 0])), (ac, .inl (cJ, 64, .inl ks_k)), (au, .inl (cJ, 16, .inl ks_tt)), (ab, .inl (cJ, 4, .inl ks_begI)), (ae, .inl (cJ, 4, .inl ks_tmI)), (am, .inl (cJ, 4, .inl (ks_up ks_moI 1)))] H := hP
  have hD : va_D A [(h, .inr (2, [.ref ac, .ref au, .ref ab, .ref ae, .null, .null, .int 0, .null, .null, .null, .null, .int 0, .null, .int 0])), (ac, .inl (cJ, 64, .inl ks_k)), (au, .inl (cJ, 16, .inl ks_tt)), (ab, .inl (cJ, 4, .inl ks_begI)), (ae, .inl (cJ, 4, .inl ks_tmI)), (am, .inl (cJ, 4, .inl (ks_up ks_moI 1)))] := hD
  refine lv_dup hx hb dX2_init_545 rfl ?_
  refine lv_iconst (v := 1) hx hb dX2_init_546 (by decide) ?_
  refine kz_top (y := nI 1) (by decide) ?_
  refine lv_iconst (v := 1) hx hb dX2_init_547 (by decide) ?_
  refine kz_astK (j := 1) (T := ks_moI) hx hb hK hP hD hS 5 0 rfl rfl (by decide) (by decide) (by decide +kernel) dX2_init_548 (fun H locs hP hD hS => ?_)
  have hP : va_P (dC, dI) vwCl [(h, .inr (2, [.ref ac, .ref au, .ref ab, .ref ae, .null, .null, .int 0, .null, .null, .null, .null, .int 0, .null, .int 0])), (ac, .inl (cJ, 64, .inl ks_k)), (au, .inl (cJ, 16, .inl ks_tt)), (ab, .inl (cJ, 4, .inl ks_begI)), (ae, .inl (cJ, 4, .inl ks_tmI)), (am, .inl (cJ, 4, .inl (ks_up ks_moI 2)))] H := hP
  have hD : va_D A [(h, .inr (2, [.ref ac, .ref au, .ref ab, .ref ae, .null, .null, .int 0, .null, .null, .null, .null, .int 0, .null, .int 0])), (ac, .inl (cJ, 64, .inl ks_k)), (au, .inl (cJ, 16, .inl ks_tt)), (ab, .inl (cJ, 4, .inl ks_begI)), (ae, .inl (cJ, 4, .inl ks_tmI)), (am, .inl (cJ, 4, .inl (ks_up ks_moI 2)))] := hD
  refine lv_dup hx hb dX2_init_549 rfl ?_
  refine lv_iconst (v := 2) hx hb dX2_init_550 (by decide) ?_
  refine kz_top (y := nI 2) (by decide) ?_
  refine lv_iconst (v := 5) hx hb dX2_init_551 (by decide) ?_
  refine kz_astK (j := 2) (T := ks_moI) hx hb hK hP hD hS 5 0 rfl rfl (by decide) (by decide) (by decide +kernel) dX2_init_552 (fun H locs hP hD hS => ?_)
  have hP : va_P (dC, dI) vwCl [(h, .inr (2, [.ref ac, .ref au, .ref ab, .ref ae, .null, .null, .int 0, .null, .null, .null, .null, .int 0, .null, .int 0])), (ac, .inl (cJ, 64, .inl ks_k)), (au, .inl (cJ, 16, .inl ks_tt)), (ab, .inl (cJ, 4, .inl ks_begI)), (ae, .inl (cJ, 4, .inl ks_tmI)), (am, .inl (cJ, 4, .inl (ks_up ks_moI 3)))] H := hP
  have hD : va_D A [(h, .inr (2, [.ref ac, .ref au, .ref ab, .ref ae, .null, .null, .int 0, .null, .null, .null, .null, .int 0, .null, .int 0])), (ac, .inl (cJ, 64, .inl ks_k)), (au, .inl (cJ, 16, .inl ks_tt)), (ab, .inl (cJ, 4, .inl ks_begI)), (ae, .inl (cJ, 4, .inl ks_tmI)), (am, .inl (cJ, 4, .inl (ks_up ks_moI 3)))] := hD
  refine lv_dup hx hb dX2_init_553 rfl ?_
  refine lv_iconst (v := 3) hx hb dX2_init_554 (by decide) ?_
  refine kz_top (y := nI 3) (by decide) ?_
  refine lv_iconst (v := 0) hx hb dX2_init_555 (by decide) ?_
  refine kz_astK (j := 3) (T := ks_moI) hx hb hK hP hD hS 5 0 rfl rfl (by decide) (by decide) (by decide +kernel) dX2_init_556 (fun H locs hP hD hS => ?_)
  have hP : va_P (dC, dI) vwCl [(h, .inr (2, [.ref ac, .ref au, .ref ab, .ref ae, .null, .null, .int 0, .null, .null, .null, .null, .int 0, .null, .int 0])), (ac, .inl (cJ, 64, .inl ks_k)), (au, .inl (cJ, 16, .inl ks_tt)), (ab, .inl (cJ, 4, .inl ks_begI)), (ae, .inl (cJ, 4, .inl ks_tmI)), (am, .inl (cJ, 4, .inl (ks_up ks_moI 4)))] H := hP
  have hD : va_D A [(h, .inr (2, [.ref ac, .ref au, .ref ab, .ref ae, .null, .null, .int 0, .null, .null, .null, .null, .int 0, .null, .int 0])), (ac, .inl (cJ, 64, .inl ks_k)), (au, .inl (cJ, 16, .inl ks_tt)), (ab, .inl (cJ, 4, .inl ks_begI)), (ae, .inl (cJ, 4, .inl ks_tmI)), (am, .inl (cJ, 4, .inl (ks_up ks_moI 4)))] := hD
  rw [ks_up_n (T := ks_moI) (k := 4) (fun j hj => ks_nat0 rfl hj)] at hP hD
  refine va_putF (D := (dC, dI)) (ci := 2) (v := .ref am) (ty := .array .int) (C := RX2) (T := TX2) (N := 14) hx hb hts (by decide +kernel) tyX2 tyX2_ok nmX2 hown hK hP hD hS 0 rfl rfl 4 (by decide) (hts (.fieldLink RX2 90 "KeySumsModel" "more" "[I") (by decide +kernel)) (fun _ h9 => h9) rfl hin rfl (by decide +kernel) rfl rfl (Nat.le_of_ble_eq_true rfl) dX2_init_557 (fun H locs hP hD hS => ?_)
  have hP : va_P (dC, dI) vwCl [(h, .inr (2, [.ref ac, .ref au, .ref ab, .ref ae, .ref am, .null, .int 0, .null, .null, .null, .null, .int 0, .null, .int 0])), (ac, .inl (cJ, 64, .inl ks_k)), (au, .inl (cJ, 16, .inl ks_tt)), (ab, .inl (cJ, 4, .inl ks_begI)), (ae, .inl (cJ, 4, .inl ks_tmI)), (am, .inl (cJ, 4, .inl ks_moI))] H := hP
  have hD : va_D A [(h, .inr (2, [.ref ac, .ref au, .ref ab, .ref ae, .ref am, .null, .int 0, .null, .null, .null, .null, .int 0, .null, .int 0])), (ac, .inl (cJ, 64, .inl ks_k)), (au, .inl (cJ, 16, .inl ks_tt)), (ab, .inl (cJ, 4, .inl ks_begI)), (ae, .inl (cJ, 4, .inl ks_tmI)), (am, .inl (cJ, 4, .inl ks_moI))] := hD
  refine lv_aload_n hx hb dX2_init_560 rfl (lv_at hl 0 rfl) ?_
  refine lv_sipush (v := 2000) hx hb dX2_init_561 (by decide) ?_
  refine va_newa (atype := .int) (ty := .int) (N' := 2000) (a0 := (2000, .inl (fun _ => 0))) hx hb (hts (.arrayClass .int) (by decide +kernel)) rfl hK hP hD hS hA (fun cA => rfl) (by decide +kernel) (by decide +kernel) (by decide +kernel) (Nat.le_of_ble_eq_true rfl) (Nat.le_of_ble_eq_true rfl) dX2_init_564 (fun ap c2 H hK hP hD hS => ?_)
  have r1 : s.vm.findClass ("[" ++ FieldType.int.toString) = some cJ := (hK.2 0 _ rfl).2
  have r2 : s.vm.findClass ("[" ++ FieldType.int.toString) = some c2 := (hK.2 1 _ rfl).2
  have hc9 : cJ = c2 := Option.some.inj (r1.symm.trans r2)
  subst hc9
  have hK := hK.sub (tys' := [(cJ, .int)]) [0] rfl
  have hP : va_P (dC, dI) vwCl [(h, .inr (2, [.ref ac, .ref au, .ref ab, .ref ae, .ref am, .null, .int 0, .null, .null, .null, .null, .int 0, .null, .int 0])), (ac, .inl (cJ, 64, .inl ks_k)), (au, .inl (cJ, 16, .inl ks_tt)), (ab, .inl (cJ, 4, .inl ks_begI)), (ae, .inl (cJ, 4, .inl ks_tmI)), (am, .inl (cJ, 4, .inl ks_moI)), (ap, .inl (cJ, 2000, .inl (fun _ => 0)))] H := hP
  have hD : va_D A [(h, .inr (2, [.ref ac, .ref au, .ref ab, .ref ae, .ref am, .null, .int 0, .null, .null, .null, .null, .int 0, .null, .int 0])), (ac, .inl (cJ, 64, .inl ks_k)), (au, .inl (cJ, 16, .inl ks_tt)), (ab, .inl (cJ, 4, .inl ks_begI)), (ae, .inl (cJ, 4, .inl ks_tmI)), (am, .inl (cJ, 4, .inl ks_moI)), (ap, .inl (cJ, 2000, .inl (fun _ => 0)))] := hD
  have hK : va_K (dC, dI) vwCl [(cJ, .int)] s := hK
  refine W.widen (k := 6) (n := 2092) (Nat.le_of_ble_eq_true rfl) (Nat.le_of_ble_eq_true rfl) ?_
  refine va_putF (D := (dC, dI)) (ci := 2) (v := .ref ap) (ty := .array .int) (C := RX2) (T := TX2) (N := 14) hx hb hts (by decide +kernel) tyX2 tyX2_ok nmX2 hown hK hP hD hS 0 rfl rfl 5 (by decide) (hts (.fieldLink RX2 93 "KeySumsModel" "tape" "[I") (by decide +kernel)) (fun _ h9 => h9) rfl hin rfl (by decide +kernel) rfl rfl (Nat.le_of_ble_eq_true rfl) dX2_init_566 (fun H locs hP hD hS => ?_)
  have hP : va_P (dC, dI) vwCl [(h, .inr (2, [.ref ac, .ref au, .ref ab, .ref ae, .ref am, .ref ap, .int 0, .null, .null, .null, .null, .int 0, .null, .int 0])), (ac, .inl (cJ, 64, .inl ks_k)), (au, .inl (cJ, 16, .inl ks_tt)), (ab, .inl (cJ, 4, .inl ks_begI)), (ae, .inl (cJ, 4, .inl ks_tmI)), (am, .inl (cJ, 4, .inl ks_moI)), (ap, .inl (cJ, 2000, .inl (fun _ => 0)))] H := hP
  have hD : va_D A [(h, .inr (2, [.ref ac, .ref au, .ref ab, .ref ae, .ref am, .ref ap, .int 0, .null, .null, .null, .null, .int 0, .null, .int 0])), (ac, .inl (cJ, 64, .inl ks_k)), (au, .inl (cJ, 16, .inl ks_tt)), (ab, .inl (cJ, 4, .inl ks_begI)), (ae, .inl (cJ, 4, .inl ks_tmI)), (am, .inl (cJ, 4, .inl ks_moI)), (ap, .inl (cJ, 2000, .inl (fun _ => 0)))] := hD
  refine lv_aload_n hx hb dX2_init_569 rfl (lv_at hl 0 rfl) ?_
  refine lv_bipush (v := 16) hx hb dX2_init_570 (by decide) ?_
  refine va_newa (atype := .int) (ty := .int) (N' := 16) (a0 := (16, .inl (fun _ => 0))) hx hb (hts (.arrayClass .int) (by decide +kernel)) rfl hK hP hD hS hA (fun cA => rfl) (by decide +kernel) (by decide +kernel) (by decide +kernel) (Nat.le_of_ble_eq_true rfl) (Nat.le_of_ble_eq_true rfl) dX2_init_572 (fun ak c2 H hK hP hD hS => ?_)
  have r1 : s.vm.findClass ("[" ++ FieldType.int.toString) = some cJ := (hK.2 0 _ rfl).2
  have r2 : s.vm.findClass ("[" ++ FieldType.int.toString) = some c2 := (hK.2 1 _ rfl).2
  have hc9 : cJ = c2 := Option.some.inj (r1.symm.trans r2)
  subst hc9
  have hK := hK.sub (tys' := [(cJ, .int)]) [0] rfl
  have hP : va_P (dC, dI) vwCl [(h, .inr (2, [.ref ac, .ref au, .ref ab, .ref ae, .ref am, .ref ap, .int 0, .null, .null, .null, .null, .int 0, .null, .int 0])), (ac, .inl (cJ, 64, .inl ks_k)), (au, .inl (cJ, 16, .inl ks_tt)), (ab, .inl (cJ, 4, .inl ks_begI)), (ae, .inl (cJ, 4, .inl ks_tmI)), (am, .inl (cJ, 4, .inl ks_moI)), (ap, .inl (cJ, 2000, .inl (fun _ => 0))), (ak, .inl (cJ, 16, .inl (fun _ => 0)))] H := hP
  have hD : va_D A [(h, .inr (2, [.ref ac, .ref au, .ref ab, .ref ae, .ref am, .ref ap, .int 0, .null, .null, .null, .null, .int 0, .null, .int 0])), (ac, .inl (cJ, 64, .inl ks_k)), (au, .inl (cJ, 16, .inl ks_tt)), (ab, .inl (cJ, 4, .inl ks_begI)), (ae, .inl (cJ, 4, .inl ks_tmI)), (am, .inl (cJ, 4, .inl ks_moI)), (ap, .inl (cJ, 2000, .inl (fun _ => 0))), (ak, .inl (cJ, 16, .inl (fun _ => 0)))] := hD
  have hK : va_K (dC, dI) vwCl [(cJ, .int)] s := hK
  refine W.widen (k := 7) (n := 2108) (Nat.le_of_ble_eq_true rfl) (Nat.le_of_ble_eq_true rfl) ?_
  refine va_putF (D := (dC, dI)) (ci := 2) (v := .ref ak) (ty := .array .int) (C := RX2) (T := TX2) (N := 14) hx hb hts (by decide +kernel) tyX2 tyX2_ok nmX2 hown hK hP hD hS 0 rfl rfl 7 (by decide) (hts (.fieldLink RX2 96 "KeySumsModel" "key" "[I") (by decide +kernel)) (fun _ h9 => h9) rfl hin rfl (by decide +kernel) rfl rfl (Nat.le_of_ble_eq_true rfl) dX2_init_574 (fun H locs hP hD hS => ?_)
  have hP : va_P (dC, dI) vwCl [(h, .inr (2, [.ref ac, .ref au, .ref ab, .ref ae, .ref am, .ref ap, .int 0, .ref ak, .null, .null, .null, .int 0, .null, .int 0])), (ac, .inl (cJ, 64, .inl ks_k)), (au, .inl (cJ, 16, .inl ks_tt)), (ab, .inl (cJ, 4, .inl ks_begI)), (ae, .inl (cJ, 4, .inl ks_tmI)), (am, .inl (cJ, 4, .inl ks_moI)), (ap, .inl (cJ, 2000, .inl (fun _ => 0))), (ak, .inl (cJ, 16, .inl (fun _ => 0)))] H := hP
  have hD : va_D A [(h, .inr (2, [.ref ac, .ref au, .ref ab, .ref ae, .ref am, .ref ap, .int 0, .ref ak, .null, .null, .null, .int 0, .null, .int 0])), (ac, .inl (cJ, 64, .inl ks_k)), (au, .inl (cJ, 16, .inl ks_tt)), (ab, .inl (cJ, 4, .inl ks_begI)), (ae, .inl (cJ, 4, .inl ks_tmI)), (am, .inl (cJ, 4, .inl ks_moI)), (ap, .inl (cJ, 2000, .inl (fun _ => 0))), (ak, .inl (cJ, 16, .inl (fun _ => 0)))] := hD
  refine lv_aload_n hx hb dX2_init_577 rfl (lv_at hl 0 rfl) ?_
  refine lv_bipush (v := 64) hx hb dX2_init_578 (by decide) ?_
  refine va_newa (atype := .int) (ty := .int) (N' := 64) (a0 := (64, .inl (fun _ => 0))) hx hb (hts (.arrayClass .int) (by decide +kernel)) rfl hK hP hD hS hA (fun cA => rfl) (by decide +kernel) (by decide +kernel) (by decide +kernel) (Nat.le_of_ble_eq_true rfl) (Nat.le_of_ble_eq_true rfl) dX2_init_580 (fun al c2 H hK hP hD hS => ?_)
  have r1 : s.vm.findClass ("[" ++ FieldType.int.toString) = some cJ := (hK.2 0 _ rfl).2
  have r2 : s.vm.findClass ("[" ++ FieldType.int.toString) = some c2 := (hK.2 1 _ rfl).2
  have hc9 : cJ = c2 := Option.some.inj (r1.symm.trans r2)
  subst hc9
  have hK := hK.sub (tys' := [(cJ, .int)]) [0] rfl
  have hP : va_P (dC, dI) vwCl [(h, .inr (2, [.ref ac, .ref au, .ref ab, .ref ae, .ref am, .ref ap, .int 0, .ref ak, .null, .null, .null, .int 0, .null, .int 0])), (ac, .inl (cJ, 64, .inl ks_k)), (au, .inl (cJ, 16, .inl ks_tt)), (ab, .inl (cJ, 4, .inl ks_begI)), (ae, .inl (cJ, 4, .inl ks_tmI)), (am, .inl (cJ, 4, .inl ks_moI)), (ap, .inl (cJ, 2000, .inl (fun _ => 0))), (ak, .inl (cJ, 16, .inl (fun _ => 0))), (al, .inl (cJ, 64, .inl (fun _ => 0)))] H := hP
  have hD : va_D A [(h, .inr (2, [.ref ac, .ref au, .ref ab, .ref ae, .ref am, .ref ap, .int 0, .ref ak, .null, .null, .null, .int 0, .null, .int 0])), (ac, .inl (cJ, 64, .inl ks_k)), (au, .inl (cJ, 16, .inl ks_tt)), (ab, .inl (cJ, 4, .inl ks_begI)), (ae, .inl (cJ, 4, .inl ks_tmI)), (am, .inl (cJ, 4, .inl ks_moI)), (ap, .inl (cJ, 2000, .inl (fun _ => 0))), (ak, .inl (cJ, 16, .inl (fun _ => 0))), (al, .inl (cJ, 64, .inl (fun _ => 0)))] := hD
  have hK : va_K (dC, dI) vwCl [(cJ, .int)] s := hK
  refine W.widen (k := 8) (n := 2172) (Nat.le_of_ble_eq_true rfl) (Nat.le_of_ble_eq_true rfl) ?_
  refine va_putF (D := (dC, dI)) (ci := 2) (v := .ref al) (ty := .array .int) (C := RX2) (T := TX2) (N := 14) hx hb hts (by decide +kernel) tyX2 tyX2_ok nmX2 hown hK hP hD hS 0 rfl rfl 8 (by decide) (hts (.fieldLink RX2 99 "KeySumsModel" "block" "[I") (by decide +kernel)) (fun _ h9 => h9) rfl hin rfl (by decide +kernel) rfl rfl (Nat.le_of_ble_eq_true rfl) dX2_init_582 (fun H locs hP hD hS => ?_)
  have hP : va_P (dC, dI) vwCl [(h, .inr (2, [.ref ac, .ref au, .ref ab, .ref ae, .ref am, .ref ap, .int 0, .ref ak, .ref al, .null, .null, .int 0, .null, .int 0])), (ac, .inl (cJ, 64, .inl ks_k)), (au, .inl (cJ, 16, .inl ks_tt)), (ab, .inl (cJ, 4, .inl ks_begI)), (ae, .inl (cJ, 4, .inl ks_tmI)), (am, .inl (cJ, 4, .inl ks_moI)), (ap, .inl (cJ, 2000, .inl (fun _ => 0))), (ak, .inl (cJ, 16, .inl (fun _ => 0))), (al, .inl (cJ, 64, .inl (fun _ => 0)))] H := hP
  have hD : va_D A [(h, .inr (2, [.ref ac, .ref au, .ref ab, .ref ae, .ref am, .ref ap, .int 0, .ref ak, .ref al, .null, .null, .int 0, .null, .int 0])), (ac, .inl (cJ, 64, .inl ks_k)), (au, .inl (cJ, 16, .inl ks_tt)), (ab, .inl (cJ, 4, .inl ks_begI)), (ae, .inl (cJ, 4, .inl ks_tmI)), (am, .inl (cJ, 4, .inl ks_moI)), (ap, .inl (cJ, 2000, .inl (fun _ => 0))), (ak, .inl (cJ, 16, .inl (fun _ => 0))), (al, .inl (cJ, 64, .inl (fun _ => 0)))] := hD
  refine lv_aload_n hx hb dX2_init_585 rfl (lv_at hl 0 rfl) ?_
  refine lv_iconst (v := 4) hx hb dX2_init_586 (by decide) ?_
  refine va_newa (atype := .int) (ty := .int) (N' := 4) (a0 := (4, .inl (fun _ => 0))) hx hb (hts (.arrayClass .int) (by decide +kernel)) rfl hK hP hD hS hA (fun cA => rfl) (by decide +kernel) (by decide +kernel) (by decide +kernel) (Nat.le_of_ble_eq_true rfl) (Nat.le_of_ble_eq_true rfl) dX2_init_587 (fun af c2 H hK hP hD hS => ?_)
  have r1 : s.vm.findClass ("[" ++ FieldType.int.toString) = some cJ := (hK.2 0 _ rfl).2
  have r2 : s.vm.findClass ("[" ++ FieldType.int.toString) = some c2 := (hK.2 1 _ rfl).2
  have hc9 : cJ = c2 := Option.some.inj (r1.symm.trans r2)
  subst hc9
  have hK := hK.sub (tys' := [(cJ, .int)]) [0] rfl
  have hP : va_P (dC, dI) vwCl [(h, .inr (2, [.ref ac, .ref au, .ref ab, .ref ae, .ref am, .ref ap, .int 0, .ref ak, .ref al, .null, .null, .int 0, .null, .int 0])), (ac, .inl (cJ, 64, .inl ks_k)), (au, .inl (cJ, 16, .inl ks_tt)), (ab, .inl (cJ, 4, .inl ks_begI)), (ae, .inl (cJ, 4, .inl ks_tmI)), (am, .inl (cJ, 4, .inl ks_moI)), (ap, .inl (cJ, 2000, .inl (fun _ => 0))), (ak, .inl (cJ, 16, .inl (fun _ => 0))), (al, .inl (cJ, 64, .inl (fun _ => 0))), (af, .inl (cJ, 4, .inl (fun _ => 0)))] H := hP
  have hD : va_D A [(h, .inr (2, [.ref ac, .ref au, .ref ab, .ref ae, .ref am, .ref ap, .int 0, .ref ak, .ref al, .null, .null, .int 0, .null, .int 0])), (ac, .inl (cJ, 64, .inl ks_k)), (au, .inl (cJ, 16, .inl ks_tt)), (ab, .inl (cJ, 4, .inl ks_begI)), (ae, .inl (cJ, 4, .inl ks_tmI)), (am, .inl (cJ, 4, .inl ks_moI)), (ap, .inl (cJ, 2000, .inl (fun _ => 0))), (ak, .inl (cJ, 16, .inl (fun _ => 0))), (al, .inl (cJ, 64, .inl (fun _ => 0))), (af, .inl (cJ, 4, .inl (fun _ => 0)))] := hD
  have hK : va_K (dC, dI) vwCl [(cJ, .int)] s := hK
  refine W.widen (k := 9) (n := 2176) (Nat.le_of_ble_eq_true rfl) (Nat.le_of_ble_eq_true rfl) ?_
  refine va_putF (D := (dC, dI)) (ci := 2) (v := .ref af) (ty := .array .int) (C := RX2) (T := TX2) (N := 14) hx hb hts (by decide +kernel) tyX2 tyX2_ok nmX2 hown hK hP hD hS 0 rfl rfl 9 (by decide) (hts (.fieldLink RX2 102 "KeySumsModel" "four" "[I") (by decide +kernel)) (fun _ h9 => h9) rfl hin rfl (by decide +kernel) rfl rfl (Nat.le_of_ble_eq_true rfl) dX2_init_589 (fun H locs hP hD hS => ?_)
  have hP : va_P (dC, dI) vwCl [(h, .inr (2, [.ref ac, .ref au, .ref ab, .ref ae, .ref am, .ref ap, .int 0, .ref ak, .ref al, .ref af, .null, .int 0, .null, .int 0])), (ac, .inl (cJ, 64, .inl ks_k)), (au, .inl (cJ, 16, .inl ks_tt)), (ab, .inl (cJ, 4, .inl ks_begI)), (ae, .inl (cJ, 4, .inl ks_tmI)), (am, .inl (cJ, 4, .inl ks_moI)), (ap, .inl (cJ, 2000, .inl (fun _ => 0))), (ak, .inl (cJ, 16, .inl (fun _ => 0))), (al, .inl (cJ, 64, .inl (fun _ => 0))), (af, .inl (cJ, 4, .inl (fun _ => 0)))] H := hP
  have hD : va_D A [(h, .inr (2, [.ref ac, .ref au, .ref ab, .ref ae, .ref am, .ref ap, .int 0, .ref ak, .ref al, .ref af, .null, .int 0, .null, .int 0])), (ac, .inl (cJ, 64, .inl ks_k)), (au, .inl (cJ, 16, .inl ks_tt)), (ab, .inl (cJ, 4, .inl ks_begI)), (ae, .inl (cJ, 4, .inl ks_tmI)), (am, .inl (cJ, 4, .inl ks_moI)), (ap, .inl (cJ, 2000, .inl (fun _ => 0))), (ak, .inl (cJ, 16, .inl (fun _ => 0))), (al, .inl (cJ, 64, .inl (fun _ => 0))), (af, .inl (cJ, 4, .inl (fun _ => 0)))] := hD
  refine lv_aload_n hx hb dX2_init_592 rfl (lv_at hl 0 rfl) ?_
  refine lv_iconst (v := 4) hx hb dX2_init_593 (by decide) ?_
  refine va_newa (atype := .int) (ty := .int) (N' := 4) (a0 := (4, .inl (fun _ => 0))) hx hb (hts (.arrayClass .int) (by decide +kernel)) rfl hK hP hD hS hA (fun cA => rfl) (by decide +kernel) (by decide +kernel) (by decide +kernel) (Nat.le_of_ble_eq_true rfl) (Nat.le_of_ble_eq_true rfl) dX2_init_594 (fun an c2 H hK hP hD hS => ?_)
  have r1 : s.vm.findClass ("[" ++ FieldType.int.toString) = some cJ := (hK.2 0 _ rfl).2
  have r2 : s.vm.findClass ("[" ++ FieldType.int.toString) = some c2 := (hK.2 1 _ rfl).2
  have hc9 : cJ = c2 := Option.some.inj (r1.symm.trans r2)
  subst hc9
  have hK := hK.sub (tys' := [(cJ, .int)]) [0] rfl
  have hP : va_P (dC, dI) vwCl [(h, .inr (2, [.ref ac, .ref au, .ref ab, .ref ae, .ref am, .ref ap, .int 0, .ref ak, .ref al, .ref af, .null, .int 0, .null, .int 0])), (ac, .inl (cJ, 64, .inl ks_k)), (au, .inl (cJ, 16, .inl ks_tt)), (ab, .inl (cJ, 4, .inl ks_begI)), (ae, .inl (cJ, 4, .inl ks_tmI)), (am, .inl (cJ, 4, .inl ks_moI)), (ap, .inl (cJ, 2000, .inl (fun _ => 0))), (ak, .inl (cJ, 16, .inl (fun _ => 0))), (al, .inl (cJ, 64, .inl (fun _ => 0))), (af, .inl (cJ, 4, .inl (fun _ => 0))), (an, .inl (cJ, 4, .inl (fun _ => 0)))] H := hP
  have hD : va_D A [(h, .inr (2, [.ref ac, .ref au, .ref ab, .ref ae, .ref am, .ref ap, .int 0, .ref ak, .ref al, .ref af, .null, .int 0, .null, .int 0])), (ac, .inl (cJ, 64, .inl ks_k)), (au, .inl (cJ, 16, .inl ks_tt)), (ab, .inl (cJ, 4, .inl ks_begI)), (ae, .inl (cJ, 4, .inl ks_tmI)), (am, .inl (cJ, 4, .inl ks_moI)), (ap, .inl (cJ, 2000, .inl (fun _ => 0))), (ak, .inl (cJ, 16, .inl (fun _ => 0))), (al, .inl (cJ, 64, .inl (fun _ => 0))), (af, .inl (cJ, 4, .inl (fun _ => 0))), (an, .inl (cJ, 4, .inl (fun _ => 0)))] := hD
  have hK : va_K (dC, dI) vwCl [(cJ, .int)] s := hK
  refine W.widen (k := 10) (n := 2180) (Nat.le_of_ble_eq_true rfl) (Nat.le_of_ble_eq_true rfl) ?_
  refine va_putF (D := (dC, dI)) (ci := 2) (v := .ref an) (ty := .array .int) (C := RX2) (T := TX2) (N := 14) hx hb hts (by decide +kernel) tyX2 tyX2_ok nmX2 hown hK hP hD hS 0 rfl rfl 10 (by decide) (hts (.fieldLink RX2 105 "KeySumsModel" "now" "[I") (by decide +kernel)) (fun _ h9 => h9) rfl hin rfl (by decide +kernel) rfl rfl (Nat.le_of_ble_eq_true rfl) dX2_init_596 (fun H locs hP hD hS => ?_)
  have hP : va_P (dC, dI) vwCl [(h, .inr (2, [.ref ac, .ref au, .ref ab, .ref ae, .ref am, .ref ap, .int 0, .ref ak, .ref al, .ref af, .ref an, .int 0, .null, .int 0])), (ac, .inl (cJ, 64, .inl ks_k)), (au, .inl (cJ, 16, .inl ks_tt)), (ab, .inl (cJ, 4, .inl ks_begI)), (ae, .inl (cJ, 4, .inl ks_tmI)), (am, .inl (cJ, 4, .inl ks_moI)), (ap, .inl (cJ, 2000, .inl (fun _ => 0))), (ak, .inl (cJ, 16, .inl (fun _ => 0))), (al, .inl (cJ, 64, .inl (fun _ => 0))), (af, .inl (cJ, 4, .inl (fun _ => 0))), (an, .inl (cJ, 4, .inl (fun _ => 0)))] H := hP
  have hD : va_D A [(h, .inr (2, [.ref ac, .ref au, .ref ab, .ref ae, .ref am, .ref ap, .int 0, .ref ak, .ref al, .ref af, .ref an, .int 0, .null, .int 0])), (ac, .inl (cJ, 64, .inl ks_k)), (au, .inl (cJ, 16, .inl ks_tt)), (ab, .inl (cJ, 4, .inl ks_begI)), (ae, .inl (cJ, 4, .inl ks_tmI)), (am, .inl (cJ, 4, .inl ks_moI)), (ap, .inl (cJ, 2000, .inl (fun _ => 0))), (ak, .inl (cJ, 16, .inl (fun _ => 0))), (al, .inl (cJ, 64, .inl (fun _ => 0))), (af, .inl (cJ, 4, .inl (fun _ => 0))), (an, .inl (cJ, 4, .inl (fun _ => 0)))] := hD
  refine lv_aload_n hx hb dX2_init_599 rfl (lv_at hl 0 rfl) ?_
  refine lv_bipush (v := 16) hx hb dX2_init_600 (by decide) ?_
  refine va_newa (atype := .int) (ty := .int) (N' := 16) (a0 := (16, .inl (fun _ => 0))) hx hb (hts (.arrayClass .int) (by decide +kernel)) rfl hK hP hD hS hA (fun cA => rfl) (by decide +kernel) (by decide +kernel) (by decide +kernel) (Nat.le_of_ble_eq_true rfl) (Nat.le_of_ble_eq_true rfl) dX2_init_602 (fun ar c2 H hK hP hD hS => ?_)
  have r1 : s.vm.findClass ("[" ++ FieldType.int.toString) = some cJ := (hK.2 0 _ rfl).2
  have r2 : s.vm.findClass ("[" ++ FieldType.int.toString) = some c2 := (hK.2 1 _ rfl).2
  have hc9 : cJ = c2 := Option.some.inj (r1.symm.trans r2)
  subst hc9
  have hK := hK.sub (tys' := [(cJ, .int)]) [0] rfl
  have hP : va_P (dC, dI) vwCl [(h, .inr (2, [.ref ac, .ref au, .ref ab, .ref ae, .ref am, .ref ap, .int 0, .ref ak, .ref al, .ref af, .ref an, .int 0, .null, .int 0])), (ac, .inl (cJ, 64, .inl ks_k)), (au, .inl (cJ, 16, .inl ks_tt)), (ab, .inl (cJ, 4, .inl ks_begI)), (ae, .inl (cJ, 4, .inl ks_tmI)), (am, .inl (cJ, 4, .inl ks_moI)), (ap, .inl (cJ, 2000, .inl (fun _ => 0))), (ak, .inl (cJ, 16, .inl (fun _ => 0))), (al, .inl (cJ, 64, .inl (fun _ => 0))), (af, .inl (cJ, 4, .inl (fun _ => 0))), (an, .inl (cJ, 4, .inl (fun _ => 0))), (ar, .inl (cJ, 16, .inl (fun _ => 0)))] H := hP
  have hD : va_D A [(h, .inr (2, [.ref ac, .ref au, .ref ab, .ref ae, .ref am, .ref ap, .int 0, .ref ak, .ref al, .ref af, .ref an, .int 0, .null, .int 0])), (ac, .inl (cJ, 64, .inl ks_k)), (au, .inl (cJ, 16, .inl ks_tt)), (ab, .inl (cJ, 4, .inl ks_begI)), (ae, .inl (cJ, 4, .inl ks_tmI)), (am, .inl (cJ, 4, .inl ks_moI)), (ap, .inl (cJ, 2000, .inl (fun _ => 0))), (ak, .inl (cJ, 16, .inl (fun _ => 0))), (al, .inl (cJ, 64, .inl (fun _ => 0))), (af, .inl (cJ, 4, .inl (fun _ => 0))), (an, .inl (cJ, 4, .inl (fun _ => 0))), (ar, .inl (cJ, 16, .inl (fun _ => 0)))] := hD
  have hK : va_K (dC, dI) vwCl [(cJ, .int)] s := hK
  refine W.widen (k := 11) (n := 2196) (Nat.le_of_ble_eq_true rfl) (Nat.le_of_ble_eq_true rfl) ?_
  refine va_putF (D := (dC, dI)) (ci := 2) (v := .ref ar) (ty := .array .int) (C := RX2) (T := TX2) (N := 14) hx hb hts (by decide +kernel) tyX2 tyX2_ok nmX2 hown hK hP hD hS 0 rfl rfl 12 (by decide) (hts (.fieldLink RX2 108 "KeySumsModel" "result" "[I") (by decide +kernel)) (fun _ h9 => h9) rfl hin rfl (by decide +kernel) rfl rfl (Nat.le_of_ble_eq_true rfl) dX2_init_604 (fun H locs hP hD hS => ?_)
  have hP : va_P (dC, dI) vwCl [(h, .inr (2, [.ref ac, .ref au, .ref ab, .ref ae, .ref am, .ref ap, .int 0, .ref ak, .ref al, .ref af, .ref an, .int 0, .ref ar, .int 0])), (ac, .inl (cJ, 64, .inl ks_k)), (au, .inl (cJ, 16, .inl ks_tt)), (ab, .inl (cJ, 4, .inl ks_begI)), (ae, .inl (cJ, 4, .inl ks_tmI)), (am, .inl (cJ, 4, .inl ks_moI)), (ap, .inl (cJ, 2000, .inl (fun _ => 0))), (ak, .inl (cJ, 16, .inl (fun _ => 0))), (al, .inl (cJ, 64, .inl (fun _ => 0))), (af, .inl (cJ, 4, .inl (fun _ => 0))), (an, .inl (cJ, 4, .inl (fun _ => 0))), (ar, .inl (cJ, 16, .inl (fun _ => 0)))] H := hP
  have hD : va_D A [(h, .inr (2, [.ref ac, .ref au, .ref ab, .ref ae, .ref am, .ref ap, .int 0, .ref ak, .ref al, .ref af, .ref an, .int 0, .ref ar, .int 0])), (ac, .inl (cJ, 64, .inl ks_k)), (au, .inl (cJ, 16, .inl ks_tt)), (ab, .inl (cJ, 4, .inl ks_begI)), (ae, .inl (cJ, 4, .inl ks_tmI)), (am, .inl (cJ, 4, .inl ks_moI)), (ap, .inl (cJ, 2000, .inl (fun _ => 0))), (ak, .inl (cJ, 16, .inl (fun _ => 0))), (al, .inl (cJ, 64, .inl (fun _ => 0))), (af, .inl (cJ, 4, .inl (fun _ => 0))), (an, .inl (cJ, 4, .inl (fun _ => 0))), (ar, .inl (cJ, 16, .inl (fun _ => 0)))] := hD
  refine lv_aload_n hx hb dX2_init_607 rfl (lv_at hl 0 rfl) ?_
  have hPc := hP.sub (ws' := [(h, .inr (2, [.ref ac, .ref au, .ref ab, .ref ae, .ref am, .ref ap, .int 0, .ref ak, .ref al, .ref af, .ref an, .int 0, .ref ar, .int 0])), (ab, .inl (cJ, 4, .inl ks_begI)), (af, .inl (cJ, 4, .inl (fun _ => 0)))]) [0, 3, 9] rfl
  have hDc := hD.sub (ws' := [(h, .inr (2, [.ref ac, .ref au, .ref ab, .ref ae, .ref am, .ref ap, .int 0, .ref ak, .ref al, .ref af, .ref an, .int 0, .ref ar, .int 0])), (ab, .inl (cJ, 4, .inl ks_begI)), (af, .inl (cJ, 4, .inl (fun _ => 0)))]) [0, 3, 9] (by decide) rfl
  have hKc := hK.sub (tys' := [(cJ, .int)]) [0] rfl
  have hFc := va_free (wc := [(h, .inr (2, [.ref ac, .ref au, .ref ab, .ref ae, .ref am, .ref ap, .int 0, .ref ak, .ref al, .ref af, .ref an, .int 0, .ref ar, .int 0])), (ab, .inl (cJ, 4, .inl ks_begI)), (af, .inl (cJ, 4, .inl (fun _ => 0)))]) hD hS hA [0, 3, 9] rfl
  refine va_callv (va_runV (As := []) (rest := []) ⟨hx, hb, hml, hown, hts⟩ (r_anew l dC dI H.size h ac au ab ae am ap ak al af an ar cJ 0 0 0 ks_begI (fun _ => 0)) (cwV 0 hts gX2_init_X2_anew rfl rfl rfl (by decide +kernel) ⟨Nat.le_of_ble_eq_true rfl, Nat.le_of_ble_eq_true rfl⟩) ⟨fun a U g mk q => by obtain ⟨q0, q1, qP, qK, qD⟩ := q; exact ⟨q0, q1, qP, va_K.moved (u := U) (U := U.calling g mk a) (Vm.Alike.refl U.vm) qK, qD⟩, va_recv hKc hPc (ci := 2) (q0 := 0) rfl rfl, fun U hU hW => ⟨rfl, by rw [hU], by rw [hU]; exact hPc, va_K.moved hW.alike hKc, hDc.weaken (fun _ _ _ _ => trivial)⟩⟩ rfl rfl hl.1 rfl (lv_room (Nat.le_of_ble_eq_true rfl)) dX2_init_608 ⟨Nat.le_of_ble_eq_true rfl, Nat.le_of_ble_eq_true rfl⟩) hS (fun q _ h => hFc q h) hFc (fun u t H1 locs ht hvm hw hB hz1 hk1 hS => ?_)
  obtain ⟨hP1, hK1, hD1⟩ := hB
  rw [ht] at hP1
  have hK1 := va_K.moved hvm.symm hK1
  try dsimp only at hw
  obtain ⟨hP, hD⟩ := va_join (wr := [(ac, .inl (cJ, 64, .inl ks_k)), (au, .inl (cJ, 16, .inl ks_tt)), (ae, .inl (cJ, 4, .inl ks_tmI)), (am, .inl (cJ, 4, .inl ks_moI)), (ap, .inl (cJ, 2000, .inl (fun _ => 0))), (ak, .inl (cJ, 16, .inl (fun _ => 0))), (al, .inl (cJ, 64, .inl (fun _ => 0))), (an, .inl (cJ, 4, .inl (fun _ => 0))), (ar, .inl (cJ, 16, .inl (fun _ => 0)))]) (w1 := [(h, .inr (2, [.ref ac, .ref au, .ref ab, .ref ae, .ref am, .ref ap, .int 0, .ref ak, .ref al, .ref af, .ref an, .int (nI 0), .ref ar, .int 0])), (ab, .inl (cJ, 4, .inl ks_begI)), (af, .inl (cJ, 4, .inl u))]) hP hD [0, 3, 9] [1, 2, 4, 5, 6, 7, 8, 10, 11] rfl rfl (by decide) (by decide) hk1 hFc hP1 hD1
  have hP := hP.sub (ws' := [(h, .inr (2, [.ref ac, .ref au, .ref ab, .ref ae, .ref am, .ref ap, .int 0, .ref ak, .ref al, .ref af, .ref an, .int (nI 0), .ref ar, .int 0])), (ac, .inl (cJ, 64, .inl ks_k)), (au, .inl (cJ, 16, .inl ks_tt)), (ab, .inl (cJ, 4, .inl ks_begI)), (ae, .inl (cJ, 4, .inl ks_tmI)), (am, .inl (cJ, 4, .inl ks_moI)), (ap, .inl (cJ, 2000, .inl (fun _ => 0))), (ak, .inl (cJ, 16, .inl (fun _ => 0))), (al, .inl (cJ, 64, .inl (fun _ => 0))), (af, .inl (cJ, 4, .inl u)), (an, .inl (cJ, 4, .inl (fun _ => 0))), (ar, .inl (cJ, 16, .inl (fun _ => 0)))]) [9, 0, 1, 10, 2, 3, 4, 5, 6, 11, 7, 8] rfl
  have hD := hD.sub (ws' := [(h, .inr (2, [.ref ac, .ref au, .ref ab, .ref ae, .ref am, .ref ap, .int 0, .ref ak, .ref al, .ref af, .ref an, .int (nI 0), .ref ar, .int 0])), (ac, .inl (cJ, 64, .inl ks_k)), (au, .inl (cJ, 16, .inl ks_tt)), (ab, .inl (cJ, 4, .inl ks_begI)), (ae, .inl (cJ, 4, .inl ks_tmI)), (am, .inl (cJ, 4, .inl ks_moI)), (ap, .inl (cJ, 2000, .inl (fun _ => 0))), (ak, .inl (cJ, 16, .inl (fun _ => 0))), (al, .inl (cJ, 64, .inl (fun _ => 0))), (af, .inl (cJ, 4, .inl u)), (an, .inl (cJ, 4, .inl (fun _ => 0))), (ar, .inl (cJ, 16, .inl (fun _ => 0)))]) [9, 0, 1, 10, 2, 3, 4, 5, 6, 11, 7, 8] (by decide) rfl
  generalize H1 = H at hP hS ⊢
  have hP : va_P (dC, dI) vwCl [(h, .inr (2, [.ref ac, .ref au, .ref ab, .ref ae, .ref am, .ref ap, .int 0, .ref ak, .ref al, .ref af, .ref an, .int (nI 0), .ref ar, .int 0])), (ac, .inl (cJ, 64, .inl ks_k)), (au, .inl (cJ, 16, .inl ks_tt)), (ab, .inl (cJ, 4, .inl ks_begI)), (ae, .inl (cJ, 4, .inl ks_tmI)), (am, .inl (cJ, 4, .inl ks_moI)), (ap, .inl (cJ, 2000, .inl (fun _ => 0))), (ak, .inl (cJ, 16, .inl (fun _ => 0))), (al, .inl (cJ, 64, .inl (fun _ => 0))), (af, .inl (cJ, 4, .inl u)), (an, .inl (cJ, 4, .inl (fun _ => 0))), (ar, .inl (cJ, 16, .inl (fun _ => 0)))] H := hP
  have hD : va_D A [(h, .inr (2, [.ref ac, .ref au, .ref ab, .ref ae, .ref am, .ref ap, .int 0, .ref ak, .ref al, .ref af, .ref an, .int (nI 0), .ref ar, .int 0])), (ac, .inl (cJ, 64, .inl ks_k)), (au, .inl (cJ, 16, .inl ks_tt)), (ab, .inl (cJ, 4, .inl ks_begI)), (ae, .inl (cJ, 4, .inl ks_tmI)), (am, .inl (cJ, 4, .inl ks_moI)), (ap, .inl (cJ, 2000, .inl (fun _ => 0))), (ak, .inl (cJ, 16, .inl (fun _ => 0))), (al, .inl (cJ, 64, .inl (fun _ => 0))), (af, .inl (cJ, 4, .inl u)), (an, .inl (cJ, 4, .inl (fun _ => 0))), (ar, .inl (cJ, 16, .inl (fun _ => 0)))] := hD
  refine W.widen (k := 11) (n := 2196) (Nat.le_of_ble_eq_true rfl) (Nat.le_of_ble_eq_true rfl) ?_
  have hP9 := hP.sub (ws' := [(h, .inr (2, [.ref ac, .ref au, .ref ab, .ref ae, .ref am, .ref ap, .int 0, .ref ak, .ref al, .ref af, .ref an, .int (nI 0), .ref ar, .int 0])), (ac, .inl (cJ, 64, .inl ks_k)), (au, .inl (cJ, 16, .inl ks_tt)), (ab, .inl (cJ, 4, .inl ks_begI)), (ae, .inl (cJ, 4, .inl ks_tmI)), (am, .inl (cJ, 4, .inl ks_moI)), (ap, .inl (cJ, 2000, .inl (fun _ => 0))), (ak, .inl (cJ, 16, .inl (fun _ => 0))), (al, .inl (cJ, 64, .inl (fun _ => 0))), (af, .inl (cJ, 4, .inl u)), (an, .inl (cJ, 4, .inl (fun _ => 0))), (ar, .inl (cJ, 16, .inl (fun _ => 0)))]) [0, 1, 2, 3, 4, 5, 6, 7, 8, 9, 10, 11] rfl
  have hD9 := hD.sub (ws' := [(h, .inr (2, [.ref ac, .ref au, .ref ab, .ref ae, .ref am, .ref ap, .int 0, .ref ak, .ref al, .ref af, .ref an, .int (nI 0), .ref ar, .int 0])), (ac, .inl (cJ, 64, .inl ks_k)), (au, .inl (cJ, 16, .inl ks_tt)), (ab, .inl (cJ, 4, .inl ks_begI)), (ae, .inl (cJ, 4, .inl ks_tmI)), (am, .inl (cJ, 4, .inl ks_moI)), (ap, .inl (cJ, 2000, .inl (fun _ => 0))), (ak, .inl (cJ, 16, .inl (fun _ => 0))), (al, .inl (cJ, 64, .inl (fun _ => 0))), (af, .inl (cJ, 4, .inl u)), (an, .inl (cJ, 4, .inl (fun _ => 0))), (ar, .inl (cJ, 16, .inl (fun _ => 0)))]) [0, 1, 2, 3, 4, 5, 6, 7, 8, 9, 10, 11] (by decide) rfl
  have hK9 := hK.sub (tys' := [(cJ, .int)]) [0] rfl
  exact W.vret hx hb hr (fun t ht hW => ⟨⟨u, rfl, hw, ac, au, ab, ae, am, ap, ak, al, af, an, ar, cJ, by rw [ht]; exact hP9, va_K.moved hW.alike hK9, hD9⟩, hS.F ht⟩) hS.2.2 dX2_init_611
end
section
theorem dL_law_0 : decode cL_law 0 = .ok (.new 7, 3) := by decide +kernel
theorem dL_law_3 : decode cL_law 3 = .ok (.dup, 1) := by decide +kernel
theorem dL_law_4 : decode cL_law 4 = .ok (.invokespecial 9, 3) := by decide +kernel
theorem dL_law_7 : decode cL_law 7 = .ok (.astore_n 1, 1) := by decide +kernel
theorem dL_law_8 : decode cL_law 8 = .ok (.new 10, 3) := by decide +kernel
theorem dL_law_11 : decode cL_law 11 = .ok (.dup, 1) := by decide +kernel
theorem dL_law_12 : decode cL_law 12 = .ok (.invokespecial 12, 3) := by decide +kernel
theorem dL_law_15 : decode cL_law 15 = .ok (.astore_n 2, 1) := by decide +kernel
theorem dL_law_16 : decode cL_law 16 = .ok (.iconst 0, 1) := by decide +kernel
theorem dL_law_17 : decode cL_law 17 = .ok (.istore_n 3, 1) := by decide +kernel
theorem dL_law_18 : decode cL_law 18 = .ok (.iload_n 3, 1) := by decide +kernel
theorem dL_law_19 : decode cL_law 19 = .ok (.aload_n 0, 1) := by decide +kernel
theorem dL_law_20 : decode cL_law 20 = .ok (.arraylength, 1) := by decide +kernel
theorem dL_law_21 : decode cL_law 21 = .ok (.bipush 6, 2) := by decide +kernel
theorem dL_law_23 : decode cL_law 23 = .ok (.isub, 1) := by decide +kernel
theorem dL_law_24 : decode cL_law 24 = .ok (.if_icmp .gt 265, 3) := by decide +kernel
theorem dL_law_27 : decode cL_law 27 = .ok (.aload_n 0, 1) := by decide +kernel
theorem dL_law_28 : decode cL_law 28 = .ok (.iload_n 3, 1) := by decide +kernel
theorem dL_law_29 : decode cL_law 29 = .ok (.iaload, 1) := by decide +kernel
theorem dL_law_30 : decode cL_law 30 = .ok (.bipush 7, 2) := by decide +kernel
theorem dL_law_32 : decode cL_law 32 = .ok (.iand, 1) := by decide +kernel
theorem dL_law_33 : decode cL_law 33 = .ok (.tableswitch 250 0 6 #[43, 106, 129, 142, 175, 188, 227], 43) := by decide +kernel
theorem dL_law_76 : decode cL_law 76 = .ok (.aload_n 1, 1) := by decide +kernel
theorem dL_law_77 : decode cL_law 77 = .ok (.aload_n 0, 1) := by decide +kernel
theorem dL_law_78 : decode cL_law 78 = .ok (.iload_n 3, 1) := by decide +kernel
theorem dL_law_79 : decode cL_law 79 = .ok (.iconst 1, 1) := by decide +kernel
theorem dL_law_80 : decode cL_law 80 = .ok (.iadd, 1) := by decide +kernel
theorem dL_law_81 : decode cL_law 81 = .ok (.iaload, 1) := by decide +kernel
theorem dL_law_82 : decode cL_law 82 = .ok (.aload_n 0, 1) := by decide +kernel
theorem dL_law_83 : decode cL_law 83 = .ok (.iload_n 3, 1) := by decide +kernel
theorem dL_law_84 : decode cL_law 84 = .ok (.iconst 2, 1) := by decide +kernel
theorem dL_law_85 : decode cL_law 85 = .ok (.iadd, 1) := by decide +kernel
theorem dL_law_86 : decode cL_law 86 = .ok (.iaload, 1) := by decide +kernel
theorem dL_law_87 : decode cL_law 87 = .ok (.aload_n 0, 1) := by decide +kernel
theorem dL_law_88 : decode cL_law 88 = .ok (.iload_n 3, 1) := by decide +kernel
theorem dL_law_89 : decode cL_law 89 = .ok (.iconst 3, 1) := by decide +kernel
theorem dL_law_90 : decode cL_law 90 = .ok (.iadd, 1) := by decide +kernel
theorem dL_law_91 : decode cL_law 91 = .ok (.iaload, 1) := by decide +kernel
theorem dL_law_92 : decode cL_law 92 = .ok (.aload_n 0, 1) := by decide +kernel
theorem dL_law_93 : decode cL_law 93 = .ok (.iload_n 3, 1) := by decide +kernel
theorem dL_law_94 : decode cL_law 94 = .ok (.iconst 4, 1) := by decide +kernel
theorem dL_law_95 : decode cL_law 95 = .ok (.iadd, 1) := by decide +kernel
theorem dL_law_96 : decode cL_law 96 = .ok (.iaload, 1) := by decide +kernel
theorem dL_law_97 : decode cL_law 97 = .ok (.aload_n 0, 1) := by decide +kernel
theorem dL_law_98 : decode cL_law 98 = .ok (.iload_n 3, 1) := by decide +kernel
theorem dL_law_99 : decode cL_law 99 = .ok (.iconst 5, 1) := by decide +kernel
theorem dL_law_100 : decode cL_law 100 = .ok (.iadd, 1) := by decide +kernel
theorem dL_law_101 : decode cL_law 101 = .ok (.iaload, 1) := by decide +kernel
theorem dL_law_102 : decode cL_law 102 = .ok (.invokevirtual 13, 3) := by decide +kernel
theorem dL_law_105 : decode cL_law 105 = .ok (.aload_n 2, 1) := by decide +kernel
theorem dL_law_106 : decode cL_law 106 = .ok (.aload_n 0, 1) := by decide +kernel
theorem dL_law_107 : decode cL_law 107 = .ok (.iload_n 3, 1) := by decide +kernel
theorem dL_law_108 : decode cL_law 108 = .ok (.iconst 1, 1) := by decide +kernel
theorem dL_law_109 : decode cL_law 109 = .ok (.iadd, 1) := by decide +kernel
theorem dL_law_110 : decode cL_law 110 = .ok (.iaload, 1) := by decide +kernel
theorem dL_law_111 : decode cL_law 111 = .ok (.aload_n 0, 1) := by decide +kernel
theorem dL_law_112 : decode cL_law 112 = .ok (.iload_n 3, 1) := by decide +kernel
theorem dL_law_113 : decode cL_law 113 = .ok (.iconst 2, 1) := by decide +kernel
theorem dL_law_114 : decode cL_law 114 = .ok (.iadd, 1) := by decide +kernel
theorem dL_law_115 : decode cL_law 115 = .ok (.iaload, 1) := by decide +kernel
theorem dL_law_116 : decode cL_law 116 = .ok (.aload_n 0, 1) := by decide +kernel
theorem dL_law_117 : decode cL_law 117 = .ok (.iload_n 3, 1) := by decide +kernel
theorem dL_law_118 : decode cL_law 118 = .ok (.iconst 3, 1) := by decide +kernel
theorem dL_law_119 : decode cL_law 119 = .ok (.iadd, 1) := by decide +kernel
theorem dL_law_120 : decode cL_law 120 = .ok (.iaload, 1) := by decide +kernel
theorem dL_law_121 : decode cL_law 121 = .ok (.aload_n 0, 1) := by decide +kernel
theorem dL_law_122 : decode cL_law 122 = .ok (.iload_n 3, 1) := by decide +kernel
theorem dL_law_123 : decode cL_law 123 = .ok (.iconst 4, 1) := by decide +kernel
theorem dL_law_124 : decode cL_law 124 = .ok (.iadd, 1) := by decide +kernel
theorem dL_law_125 : decode cL_law 125 = .ok (.iaload, 1) := by decide +kernel
theorem dL_law_126 : decode cL_law 126 = .ok (.aload_n 0, 1) := by decide +kernel
theorem dL_law_127 : decode cL_law 127 = .ok (.iload_n 3, 1) := by decide +kernel
theorem dL_law_128 : decode cL_law 128 = .ok (.iconst 5, 1) := by decide +kernel
theorem dL_law_129 : decode cL_law 129 = .ok (.iadd, 1) := by decide +kernel
theorem dL_law_130 : decode cL_law 130 = .ok (.iaload, 1) := by decide +kernel
theorem dL_law_131 : decode cL_law 131 = .ok (.invokevirtual 17, 3) := by decide +kernel
theorem dL_law_134 : decode cL_law 134 = .ok (.if_icmp .eq 149, 3) := by decide +kernel
theorem dL_law_137 : decode cL_law 137 = .ok (.iconst 0, 1) := by decide +kernel
theorem dL_law_138 : decode cL_law 138 = .ok (.ireturn, 1) := by decide +kernel
theorem dL_law_139 : decode cL_law 139 = .ok (.aload_n 1, 1) := by decide +kernel
theorem dL_law_140 : decode cL_law 140 = .ok (.aload_n 0, 1) := by decide +kernel
theorem dL_law_141 : decode cL_law 141 = .ok (.iload_n 3, 1) := by decide +kernel
theorem dL_law_142 : decode cL_law 142 = .ok (.iconst 1, 1) := by decide +kernel
theorem dL_law_143 : decode cL_law 143 = .ok (.iadd, 1) := by decide +kernel
theorem dL_law_144 : decode cL_law 144 = .ok (.iaload, 1) := by decide +kernel
theorem dL_law_145 : decode cL_law 145 = .ok (.invokevirtual 18, 3) := by decide +kernel
theorem dL_law_148 : decode cL_law 148 = .ok (.aload_n 2, 1) := by decide +kernel
theorem dL_law_149 : decode cL_law 149 = .ok (.aload_n 0, 1) := by decide +kernel
theorem dL_law_150 : decode cL_law 150 = .ok (.iload_n 3, 1) := by decide +kernel
theorem dL_law_151 : decode cL_law 151 = .ok (.iconst 1, 1) := by decide +kernel
theorem dL_law_152 : decode cL_law 152 = .ok (.iadd, 1) := by decide +kernel
theorem dL_law_153 : decode cL_law 153 = .ok (.iaload, 1) := by decide +kernel
theorem dL_law_154 : decode cL_law 154 = .ok (.invokevirtual 22, 3) := by decide +kernel
theorem dL_law_157 : decode cL_law 157 = .ok (.if_icmp .eq 126, 3) := by decide +kernel
theorem dL_law_160 : decode cL_law 160 = .ok (.iconst 0, 1) := by decide +kernel
theorem dL_law_161 : decode cL_law 161 = .ok (.ireturn, 1) := by decide +kernel
theorem dL_law_162 : decode cL_law 162 = .ok (.aload_n 1, 1) := by decide +kernel
theorem dL_law_163 : decode cL_law 163 = .ok (.invokevirtual 23, 3) := by decide +kernel
theorem dL_law_166 : decode cL_law 166 = .ok (.aload_n 2, 1) := by decide +kernel
theorem dL_law_167 : decode cL_law 167 = .ok (.invokevirtual 27, 3) := by decide +kernel
theorem dL_law_170 : decode cL_law 170 = .ok (.if_icmp .eq 113, 3) := by decide +kernel
theorem dL_law_173 : decode cL_law 173 = .ok (.iconst 0, 1) := by decide +kernel
theorem dL_law_174 : decode cL_law 174 = .ok (.ireturn, 1) := by decide +kernel
theorem dL_law_175 : decode cL_law 175 = .ok (.aload_n 1, 1) := by decide +kernel
theorem dL_law_176 : decode cL_law 176 = .ok (.aload_n 0, 1) := by decide +kernel
theorem dL_law_177 : decode cL_law 177 = .ok (.iload_n 3, 1) := by decide +kernel
theorem dL_law_178 : decode cL_law 178 = .ok (.iconst 1, 1) := by decide +kernel
theorem dL_law_179 : decode cL_law 179 = .ok (.iadd, 1) := by decide +kernel
theorem dL_law_180 : decode cL_law 180 = .ok (.iaload, 1) := by decide +kernel
theorem dL_law_181 : decode cL_law 181 = .ok (.aload_n 0, 1) := by decide +kernel
theorem dL_law_182 : decode cL_law 182 = .ok (.iload_n 3, 1) := by decide +kernel
theorem dL_law_183 : decode cL_law 183 = .ok (.iconst 2, 1) := by decide +kernel
theorem dL_law_184 : decode cL_law 184 = .ok (.iadd, 1) := by decide +kernel
theorem dL_law_185 : decode cL_law 185 = .ok (.iaload, 1) := by decide +kernel
theorem dL_law_186 : decode cL_law 186 = .ok (.invokevirtual 28, 3) := by decide +kernel
theorem dL_law_189 : decode cL_law 189 = .ok (.aload_n 2, 1) := by decide +kernel
theorem dL_law_190 : decode cL_law 190 = .ok (.aload_n 0, 1) := by decide +kernel
theorem dL_law_191 : decode cL_law 191 = .ok (.iload_n 3, 1) := by decide +kernel
theorem dL_law_192 : decode cL_law 192 = .ok (.iconst 1, 1) := by decide +kernel
theorem dL_law_193 : decode cL_law 193 = .ok (.iadd, 1) := by decide +kernel
theorem dL_law_194 : decode cL_law 194 = .ok (.iaload, 1) := by decide +kernel
theorem dL_law_195 : decode cL_law 195 = .ok (.aload_n 0, 1) := by decide +kernel
theorem dL_law_196 : decode cL_law 196 = .ok (.iload_n 3, 1) := by decide +kernel
theorem dL_law_197 : decode cL_law 197 = .ok (.iconst 2, 1) := by decide +kernel
theorem dL_law_198 : decode cL_law 198 = .ok (.iadd, 1) := by decide +kernel
theorem dL_law_199 : decode cL_law 199 = .ok (.iaload, 1) := by decide +kernel
theorem dL_law_200 : decode cL_law 200 = .ok (.invokevirtual 32, 3) := by decide +kernel
theorem dL_law_203 : decode cL_law 203 = .ok (.if_icmp .eq 80, 3) := by decide +kernel
theorem dL_law_206 : decode cL_law 206 = .ok (.iconst 0, 1) := by decide +kernel
theorem dL_law_207 : decode cL_law 207 = .ok (.ireturn, 1) := by decide +kernel
theorem dL_law_208 : decode cL_law 208 = .ok (.aload_n 1, 1) := by decide +kernel
theorem dL_law_209 : decode cL_law 209 = .ok (.invokevirtual 33, 3) := by decide +kernel
theorem dL_law_212 : decode cL_law 212 = .ok (.aload_n 2, 1) := by decide +kernel
theorem dL_law_213 : decode cL_law 213 = .ok (.invokevirtual 36, 3) := by decide +kernel
theorem dL_law_216 : decode cL_law 216 = .ok (.if_icmp .eq 67, 3) := by decide +kernel
theorem dL_law_219 : decode cL_law 219 = .ok (.iconst 0, 1) := by decide +kernel
theorem dL_law_220 : decode cL_law 220 = .ok (.ireturn, 1) := by decide +kernel
theorem dL_law_221 : decode cL_law 221 = .ok (.aload_n 1, 1) := by decide +kernel
theorem dL_law_222 : decode cL_law 222 = .ok (.aload_n 0, 1) := by decide +kernel
theorem dL_law_223 : decode cL_law 223 = .ok (.iload_n 3, 1) := by decide +kernel
theorem dL_law_224 : decode cL_law 224 = .ok (.iconst 1, 1) := by decide +kernel
theorem dL_law_225 : decode cL_law 225 = .ok (.iadd, 1) := by decide +kernel
theorem dL_law_226 : decode cL_law 226 = .ok (.iaload, 1) := by decide +kernel
theorem dL_law_227 : decode cL_law 227 = .ok (.ifCond .eq 7, 3) := by decide +kernel
theorem dL_law_230 : decode cL_law 230 = .ok (.iconst 1, 1) := by decide +kernel
theorem dL_law_231 : decode cL_law 231 = .ok (.goto 4, 3) := by decide +kernel
theorem dL_law_234 : decode cL_law 234 = .ok (.iconst 0, 1) := by decide +kernel
theorem dL_law_235 : decode cL_law 235 = .ok (.invokevirtual 37, 3) := by decide +kernel
theorem dL_law_238 : decode cL_law 238 = .ok (.aload_n 2, 1) := by decide +kernel
theorem dL_law_239 : decode cL_law 239 = .ok (.aload_n 0, 1) := by decide +kernel
theorem dL_law_240 : decode cL_law 240 = .ok (.iload_n 3, 1) := by decide +kernel
theorem dL_law_241 : decode cL_law 241 = .ok (.iconst 1, 1) := by decide +kernel
theorem dL_law_242 : decode cL_law 242 = .ok (.iadd, 1) := by decide +kernel
theorem dL_law_243 : decode cL_law 243 = .ok (.iaload, 1) := by decide +kernel
theorem dL_law_244 : decode cL_law 244 = .ok (.ifCond .eq 7, 3) := by decide +kernel
theorem dL_law_247 : decode cL_law 247 = .ok (.iconst 1, 1) := by decide +kernel
theorem dL_law_248 : decode cL_law 248 = .ok (.goto 4, 3) := by decide +kernel
theorem dL_law_251 : decode cL_law 251 = .ok (.iconst 0, 1) := by decide +kernel
theorem dL_law_252 : decode cL_law 252 = .ok (.invokevirtual 41, 3) := by decide +kernel
theorem dL_law_255 : decode cL_law 255 = .ok (.if_icmp .eq 28, 3) := by decide +kernel
theorem dL_law_258 : decode cL_law 258 = .ok (.iconst 0, 1) := by decide +kernel
theorem dL_law_259 : decode cL_law 259 = .ok (.ireturn, 1) := by decide +kernel
theorem dL_law_260 : decode cL_law 260 = .ok (.aload_n 1, 1) := by decide +kernel
theorem dL_law_261 : decode cL_law 261 = .ok (.aload_n 0, 1) := by decide +kernel
theorem dL_law_262 : decode cL_law 262 = .ok (.iload_n 3, 1) := by decide +kernel
theorem dL_law_263 : decode cL_law 263 = .ok (.iconst 1, 1) := by decide +kernel
theorem dL_law_264 : decode cL_law 264 = .ok (.iadd, 1) := by decide +kernel
theorem dL_law_265 : decode cL_law 265 = .ok (.iaload, 1) := by decide +kernel
theorem dL_law_266 : decode cL_law 266 = .ok (.invokevirtual 42, 3) := by decide +kernel
theorem dL_law_269 : decode cL_law 269 = .ok (.aload_n 2, 1) := by decide +kernel
theorem dL_law_270 : decode cL_law 270 = .ok (.aload_n 0, 1) := by decide +kernel
theorem dL_law_271 : decode cL_law 271 = .ok (.iload_n 3, 1) := by decide +kernel
theorem dL_law_272 : decode cL_law 272 = .ok (.iconst 1, 1) := by decide +kernel
theorem dL_law_273 : decode cL_law 273 = .ok (.iadd, 1) := by decide +kernel
theorem dL_law_274 : decode cL_law 274 = .ok (.iaload, 1) := by decide +kernel
theorem dL_law_275 : decode cL_law 275 = .ok (.invokevirtual 46, 3) := by decide +kernel
theorem dL_law_278 : decode cL_law 278 = .ok (.if_icmp .eq 5, 3) := by decide +kernel
theorem dL_law_281 : decode cL_law 281 = .ok (.iconst 0, 1) := by decide +kernel
theorem dL_law_282 : decode cL_law 282 = .ok (.ireturn, 1) := by decide +kernel
theorem dL_law_283 : decode cL_law 283 = .ok (.iinc 3 6, 3) := by decide +kernel
theorem dL_law_286 : decode cL_law 286 = .ok (.goto (-268), 3) := by decide +kernel
theorem dL_law_289 : decode cL_law 289 = .ok (.iconst 1, 1) := by decide +kernel
theorem dL_law_290 : decode cL_law 290 = .ok (.ireturn, 1) := by decide +kernel
end
section
theorem inX0 : ∀ w ∈ wsX00, w ∈ lw_tbl := fun w h => (goodIn_r (big := lw_tbl) wsX00 [48, 50, 52, 54, 56, 58] (by decide +kernel) (by decide +kernel) w h).1
theorem inX1 : ∀ w ∈ wsX10, w ∈ lw_tbl := fun w h => (goodIn_r (big := lw_tbl) wsX10 [69, 71, 73, 75, 77, 79] (by decide +kernel) (by decide +kernel) w h).1
theorem inX2 : ∀ w ∈ wsX20, w ∈ lw_tbl := fun w h => (goodIn_r (big := lw_tbl) wsX20 [234, 236, 238, 240, 242, 244, 246, 248, 250, 252, 254, 256, 258, 260] (by decide +kernel) (by decide +kernel) w h).1
set_option maxRecDepth 20000 in
theorem gL_law_X1_init : GoodIn lw_tbl wsX1_init := goodIn_r _ [19, 20, 21, 22, 61, 63, 64, 65, 23, 24, 13, 66, 62, 67, 68, 26, 27, 28, 37, 29, 31, 0, 32, 38, 33, 40, 34, 42, 35, 44, 36, 46, 69, 71, 73, 75, 77, 79, 48, 50, 52, 54, 56, 58] (by decide +kernel) (by decide +kernel)
set_option maxRecDepth 20000 in
theorem gL_X2i_0 : GoodIn lw_tbl [Cond.code yX2_init cX2_init 1 none] := goodIn_p _ [146] rfl (by decide +kernel)
set_option maxRecDepth 20000 in
theorem gL_X2i_1 : GoodIn lw_tbl wsX2_init_r1 := goodIn_r _ [147, 21, 22, 62, 148, 149, 150, 151, 152, 153, 154, 155, 156, 157, 158, 159, 160, 161, 162, 163, 164, 165, 166, 167] (by decide +kernel) (by decide +kernel)
set_option maxRecDepth 20000 in
theorem gL_X2i_2 : GoodIn lw_tbl wsX2_init_r2 := goodIn_r _ [168, 169, 170, 171, 172, 173, 174, 175, 176, 177, 178, 179, 180, 181, 182, 183, 184, 185, 186, 187, 188, 189, 190, 191] (by decide +kernel) (by decide +kernel)
set_option maxRecDepth 20000 in
theorem gL_X2i_3 : GoodIn lw_tbl wsX2_init_r3 := goodIn_r _ [192, 193, 194, 195, 196, 197, 198, 199, 200, 201, 202, 203, 204, 205, 206, 207, 208, 209, 210, 211, 220, 221, 212, 213] (by decide +kernel) (by decide +kernel)
set_option maxRecDepth 20000 in
theorem gL_X2i_4 : GoodIn lw_tbl wsX2_init_r4 := goodIn_r _ [214, 215, 222, 223, 224, 225, 227, 228, 229, 230, 232, 216, 218, 5, 14, 219, 231] (by decide +kernel) (by decide +kernel)
set_option maxRecDepth 20000 in
theorem gL_X2i_w : GoodIn lw_tbl wsX20 := goodIn_r _ [234, 236, 238, 240, 242, 244, 246, 248, 250, 252, 254, 256, 258, 260] (by decide +kernel) (by decide +kernel)
theorem gL_law_X2_init : GoodIn lw_tbl wsX2_init := goodIn_app (a := [Cond.code yX2_init cX2_init 1 none]) gL_X2i_0 (goodIn_app (goodIn_app (goodIn_app (goodIn_app gL_X2i_1 gL_X2i_2) gL_X2i_3) gL_X2i_4) gL_X2i_w)
set_option maxRecDepth 20000 in
theorem gL_law_X1_feed : GoodIn lw_tbl (wsV RL 13 RX1 yX1_feed wsX1_feed) := goodIn_app (goodIn_r _ [82, 83, 84, 12] (by decide +kernel) (by decide +kernel)) (goodIn_r _ [85, 64, 86, 88, 1, 12, 89, 63, 69, 71, 73, 75, 77, 79] (by decide +kernel) (by decide +kernel))
set_option maxRecDepth 20000 in
theorem gL_law_X2_feed : GoodIn lw_tbl (wsV RL 17 RX2 yX2_feed wsX2_feed) := goodIn_app (goodIn_r _ [263, 264, 265, 14] (by decide +kernel) (by decide +kernel)) (goodIn_r _ [266, 226, 267, 269, 6, 14, 270, 225, 234, 236, 238, 240, 242, 244, 246, 248, 250, 252, 254, 256, 258, 260] (by decide +kernel) (by decide +kernel))
set_option maxRecDepth 20000 in
theorem gL_law_X1_end : GoodIn lw_tbl (wsV RL 18 RX1 yX1_end wsX1_end) := goodIn_app (goodIn_r _ [90, 91, 92, 12] (by decide +kernel) (by decide +kernel)) (goodIn_r _ [93, 64, 69, 71, 73, 75, 77, 79] (by decide +kernel) (by decide +kernel))
set_option maxRecDepth 20000 in
theorem gL_law_X2_end : GoodIn lw_tbl (wsV RL 22 RX2 yX2_end wsX2_end) := goodIn_app (goodIn_r _ [271, 272, 273, 14] (by decide +kernel) (by decide +kernel)) (goodIn_r _ [274, 226, 234, 236, 238, 240, 242, 244, 246, 248, 250, 252, 254, 256, 258, 260] (by decide +kernel) (by decide +kernel))
set_option maxRecDepth 20000 in
theorem gL_law_X1_add : GoodIn lw_tbl (wsV RL 23 RX1 yX1_add wsX1_add) := goodIn_app (goodIn_r _ [94, 95, 96, 12] (by decide +kernel) (by decide +kernel)) (goodIn_r _ [97, 64, 66, 63, 100, 13, 2, 101, 38, 37, 102, 104, 3, 105, 40, 42, 44, 46, 109, 114, 106, 107, 108, 111, 112, 113, 116, 117, 118, 69, 71, 73, 75, 77, 79, 48, 50, 52, 54, 56, 58] (by decide +kernel) (by decide +kernel))
set_option maxRecDepth 20000 in
theorem gL_law_X2_add : GoodIn lw_tbl (wsV RL 27 RX2 yX2_add wsX2_add) := goodIn_app (goodIn_r _ [275, 276, 277, 14] (by decide +kernel) (by decide +kernel)) (goodIn_r _ [278, 226, 225, 279, 281, 7, 14, 231, 282, 228, 230, 229, 283, 285, 8, 286, 221, 287, 289, 9, 220, 223, 224, 291, 293, 10, 290, 294, 234, 236, 238, 240, 242, 244, 246, 248, 250, 252, 254, 256, 258, 260] (by decide +kernel) (by decide +kernel))
set_option maxRecDepth 20000 in
theorem gL_law_X1_fill : GoodIn lw_tbl (wsV RL 28 RX1 yX1_fill wsX1_fill) := goodIn_app (goodIn_r _ [119, 120, 121, 12] (by decide +kernel) (by decide +kernel)) (goodIn_r _ [122, 66, 100, 13, 2, 101, 38, 37, 102, 104, 3, 105, 40, 42, 44, 46, 109, 114, 106, 107, 108, 111, 112, 113, 116, 117, 118, 69, 71, 73, 75, 77, 79, 48, 50, 52, 54, 56, 58] (by decide +kernel) (by decide +kernel))
set_option maxRecDepth 20000 in
theorem gL_law_X2_fill : GoodIn lw_tbl (wsV RL 32 RX2 yX2_fill wsX2_fill) := goodIn_app (goodIn_r _ [295, 296, 297, 14] (by decide +kernel) (by decide +kernel)) (goodIn_r _ [298, 279, 281, 7, 14, 231, 282, 228, 230, 229, 283, 285, 8, 286, 221, 287, 289, 9, 220, 223, 224, 291, 293, 10, 290, 294, 234, 236, 238, 240, 242, 244, 246, 248, 250, 252, 254, 256, 258, 260] (by decide +kernel) (by decide +kernel))
set_option maxRecDepth 20000 in
theorem gL_law_X1_key : GoodIn lw_tbl (wsV RL 33 RX1 yX1_key wsX1_key) := goodIn_app (goodIn_r _ [123, 124, 125, 12] (by decide +kernel) (by decide +kernel)) (goodIn_r _ [126, 64, 65, 63, 69, 71, 73, 75, 77, 79] (by decide +kernel) (by decide +kernel))
set_option maxRecDepth 20000 in
theorem gL_law_X2_key : GoodIn lw_tbl (wsV RL 36 RX2 yX2_key wsX2_key) := goodIn_app (goodIn_r _ [299, 300, 301, 14] (by decide +kernel) (by decide +kernel)) (goodIn_r _ [302, 226, 227, 225, 234, 236, 238, 240, 242, 244, 246, 248, 250, 252, 254, 256, 258, 260] (by decide +kernel) (by decide +kernel))
set_option maxRecDepth 20000 in
theorem gL_law_X1_sum : GoodIn lw_tbl (wsV RL 37 RX1 yX1_sum wsX1_sum) := goodIn_app (goodIn_r _ [127, 128, 129, 12] (by decide +kernel) (by decide +kernel)) (goodIn_r _ [130, 66, 65, 67, 68, 100, 13, 2, 101, 38, 37, 102, 104, 3, 105, 40, 42, 44, 46, 109, 114, 106, 107, 108, 111, 112, 113, 116, 117, 118, 133, 4, 134, 135, 136, 31, 0, 32, 33, 34, 35, 36, 69, 71, 73, 75, 77, 79, 48, 50, 52, 54, 56, 58] (by decide +kernel) (by decide +kernel))
set_option maxRecDepth 20000 in
theorem gL_law_X2_sum : GoodIn lw_tbl (wsV RL 41 RX2 yX2_sum wsX2_sum) := goodIn_app (goodIn_r _ [303, 304, 305, 14] (by decide +kernel) (by decide +kernel)) (goodIn_r _ [306, 231, 227, 279, 281, 7, 14, 307, 232, 229, 233, 216, 218, 5, 282, 228, 230, 283, 285, 8, 286, 221, 287, 289, 9, 220, 223, 224, 291, 293, 10, 290, 294, 219, 222, 234, 236, 238, 240, 242, 244, 246, 248, 250, 252, 254, 256, 258, 260] (by decide +kernel) (by decide +kernel))
set_option maxRecDepth 20000 in
theorem gL_law_X1_sumAt : GoodIn lw_tbl (wsV RL 42 RX1 yX1_sumAt wsX1_sumAt) := goodIn_app (goodIn_r _ [138, 139, 140, 12] (by decide +kernel) (by decide +kernel)) (goodIn_r _ [141, 68, 67, 69, 71, 73, 75, 77, 79] (by decide +kernel) (by decide +kernel))
set_option maxRecDepth 20000 in
theorem gL_law_X2_sumAt : GoodIn lw_tbl (wsV RL 46 RX2 yX2_sumAt wsX2_sumAt) := goodIn_app (goodIn_r _ [308, 309, 310, 14] (by decide +kernel) (by decide +kernel)) (goodIn_r _ [311, 233, 232, 234, 236, 238, 240, 242, 244, 246, 248, 250, 252, 254, 256, 258, 260] (by decide +kernel) (by decide +kernel))
end
section
/-! THE CLAIM OUT OF ONE WALK OF THE LAW'S BODY. Your part is whole_start (and what it stands on); all else here is the same for every law, but numbers. -/
def R_law : String := "KeySumsLaw"
def lw_P (b : Addr) (xs : List Int32) (args : Array Value) (s : State) : Prop := args = #[.ref b] ∧ s.IntsAt b xs ∧ xs.length ≤ 3072 ∧ (Jvm.Cond.and given_1 narrow_1).before args s = true
def lw_Q (_ : Array Value) (s : State) (o : Outcome) (t : State) : Prop := o = .returned (some (.int 1)) ∧ Framed s o t [] 18 4258
def lw_Z (below : List Frame) (a : Array Value) (s : State) : State → Prop := fun t => ∃ o, t.status = .running ∧ Ended t below o ∧ lw_Q a s o t
/-- the law's own end, with 1 on the stack, nothing written that was there before, its room as the claim has it -/
theorem lw_ret {p : Program} {l : Launch} {e : Env} {s : State} {m : MethodId} {below : List Frame} {meth : Method} {c : Code} {b : Nat} (hx : p.tables.exec = Jvm.exec) (hb : c.code = code) (hr : meth.sig.returnType = ret) (hlocks : meth.locks = false) {pc : Nat} {H : Heap} {ls : Array Slot} (hdg : decode code pc = .ok (.ireturn, 1)) : W p l e room_1 s m #[Value.ref b] below meth c H [] 18 4258 (lw_Z below #[Value.ref b] s) (F0 m pc ls [.int 1]) := by
  intro T hT X
  obtain ⟨fs, hret, hrun, hended, hW, hframe⟩ := X.leave (v := some (.int 1)) (hlocks := hlocks) (fun h => by rw [hr] at h; cases h)
  have hmeth' : T.vm.method? m = some meth := X.method'
  refine ⟨T.setFrames fs, ?_, .returned (some (.int 1)), hrun, hended, rfl, ⟨_, rfl⟩, hW, hframe⟩
  jvm_step X.here [X.here.top, hx, hb, hdg, hmeth', hr, ret, narrow_b1]
  (try refine ⟨rfl, ?_⟩); (try refine ⟨rfl, ?_⟩)
  first | (intro acts; rw [hret _ acts rfl rfl rfl]) | rw [hret _ _ rfl rfl rfl]
  exact Steps.refl _
/-- what holds at the law's entry: the machine, the code, the tables' words (any of lw_tbl by 'hts w (by decide +kernel)'), the script of L ints xs at the cell b, what the Statement gives of the start (any of its parts by flat_of_before) -/
def lw_At (p : Program) (s : State) (m : MethodId) (meth : Method) (c : Code) (b L : Nat) (xs : Nat → Int32) : Prop :=
  p.tables.exec = Jvm.exec ∧ c.code = code ∧ meth.sig.returnType = ret ∧ c.maxLocals = 4 ∧ s.vm.findClass R_law = some m.cls ∧ (∀ w ∈ lw_tbl, w.before #[Value.ref b] s = true) ∧ va_X b L xs s s.heap ∧ b < s.heap.size ∧ meth.locks = false ∧ (Jvm.Cond.and given_1 narrow_1).before #[Value.ref b] s = true
end
section
/-- the class and the check hold the same: tape, key, bytes, sum; behind i calls -/
def ks_rel (i tn n : Nat) (hs : Int32) (v : ks_Q) (ft fk wd fs rt rk bl fr rs f : Nat → Int32) : Prop := tn ≤ 2000 ∧ (∀ j, j < tn → ft j &&& 255 = rt j &&& 255) ∧ (∀ j, j < 16 → fk j &&& 255 = rk j &&& 255) ∧ ks_inv f n wd v ∧ rf_inv f n bl fr ∧ n ≤ 4000 * i ∧ (hs = 0 ∨ (hs = 1 ∧ ∀ j, j < 16 → rs j = ks_us (fs (j / 4)) (nI (8 * (j % 4))) &&& 255))
/-- at the head of the law's loop -/
def lw_I (dC : Nat → ClassId) (dI : Nat → Nat → Nat) (s : State) (b x0 qt qk qs qw qm y0 ac au ab ae am ap ak al af an ar : Nat) (cT cK cW cM cJ : ClassId) (i : Nat) (ls : Array Slot) (H : Heap) (locs : List Loc) : Prop := ∃ (tn n : Nat) (hs : Int32) (v : ks_Q) (ft fk wd fs rt rk bl fr fn rs f : Nat → Int32), ks_rel i tn n hs v ft fk wd fs rt rk bl fr rs f ∧ lv_has ls 4 [(3, .int (nI (6 * i))), (2, .ref y0), (1, .ref x0), (0, .ref b)] ∧ va_P (dC, dI) vwCl [(x0, .inr (1, [.ref qt, .int (nI tn), .ref qk, .ref qs, .ref qm, .int hs])), (qt, .inl (cT, 2000, .inl ft)), (qk, .inl (cK, 16, .inl fk)), (qs, .inr (0, [.ref qw, .int (nI n), .int v.1, .int v.2.1, .int v.2.2.1, .int v.2.2.2])), (qw, .inl (cW, 16, .inl wd)), (qm, .inl (cM, 4, .inl fs)), (y0, .inr (2, [.ref ac, .ref au, .ref ab, .ref ae, .ref am, .ref ap, .int (nI tn), .ref ak, .ref al, .ref af, .ref an, .int (nI n), .ref ar, .int hs])), (ac, .inl (cJ, 64, .inl ks_k)), (au, .inl (cJ, 16, .inl ks_tt)), (ab, .inl (cJ, 4, .inl ks_begI)), (ae, .inl (cJ, 4, .inl ks_tmI)), (am, .inl (cJ, 4, .inl ks_moI)), (ap, .inl (cJ, 2000, .inl rt)), (ak, .inl (cJ, 16, .inl rk)), (al, .inl (cJ, 64, .inl bl)), (af, .inl (cJ, 4, .inl fr)), (an, .inl (cJ, 4, .inl fn)), (ar, .inl (cJ, 16, .inl rs))] H ∧ va_D (fun q : Nat => s.heap.size ≤ q) [(x0, .inr (1, [.ref qt, .int (nI tn), .ref qk, .ref qs, .ref qm, .int hs])), (qt, .inl (cT, 2000, .inl ft)), (qk, .inl (cK, 16, .inl fk)), (qs, .inr (0, [.ref qw, .int (nI n), .int v.1, .int v.2.1, .int v.2.2.1, .int v.2.2.2])), (qw, .inl (cW, 16, .inl wd)), (qm, .inl (cM, 4, .inl fs)), (y0, .inr (2, [.ref ac, .ref au, .ref ab, .ref ae, .ref am, .ref ap, .int (nI tn), .ref ak, .ref al, .ref af, .ref an, .int (nI n), .ref ar, .int hs])), (ac, .inl (cJ, 64, .inl ks_k)), (au, .inl (cJ, 16, .inl ks_tt)), (ab, .inl (cJ, 4, .inl ks_begI)), (ae, .inl (cJ, 4, .inl ks_tmI)), (am, .inl (cJ, 4, .inl ks_moI)), (ap, .inl (cJ, 2000, .inl rt)), (ak, .inl (cJ, 16, .inl rk)), (al, .inl (cJ, 64, .inl bl)), (af, .inl (cJ, 4, .inl fr)), (an, .inl (cJ, 4, .inl fn)), (ar, .inl (cJ, 16, .inl rs))] ∧ va_S (fun q : Nat => s.heap.size ≤ q) s.heap H locs
theorem ks_wl {ft rt : Nat → Int32} {k : Nat} (x : Int32) (h : ∀ j, j < k → ft j &&& 255 = rt j &&& 255) : ∀ j, j < k + 4 → ks_wr ft k x j &&& 255 = ks_ly rt k x j &&& 255 := by
  intro j hj
  unfold ks_wr ks_ly
  by_cases c3 : j = k + 3
  · subst c3
    rw [pk_us, pk_us, bp_b, ks_255, sb_shr0]
  rw [pk_un c3, pk_un c3]
  by_cases c2 : j = k + 2
  · subst c2
    rw [pk_us, pk_us, bp_b, ks_255]
    exact (rf_shift x (k := 1) (by decide)).symm
  rw [pk_un c2, pk_un c2]
  by_cases c1 : j = k + 1
  · subst c1
    rw [pk_us, pk_us, bp_b, ks_255]
    exact (rf_shift x (k := 2) (by decide)).symm
  rw [pk_un c1, pk_un c1]
  by_cases c0 : j = k
  · subst c0
    rw [pk_us, pk_us, bp_b, ks_255]
    exact (rf_shift x (k := 3) (by decide)).symm
  rw [pk_un c0, pk_un c0]
  exact h j (by omega)
theorem ks_kept {z fs : Nat → Int32} {q : ks_Q} (h : ks_4 z = q) {k : Nat} (hk : k < 4) : upd (upd (upd (upd fs 0 q.1) 1 q.2.1) 2 q.2.2.1) 3 q.2.2.2 k = z k := by
  subst h
  obtain rfl | rfl | rfl | rfl : k = 0 ∨ k = 1 ∨ k = 2 ∨ k = 3 := by omega
  · rfl
  · rfl
  · rfl
  · rfl
theorem lw_gt {L i : Nat} (hL : L ≤ 3072) (hi : i ≤ 600) : nI L - 6 < nI (6 * i) ↔ L < 6 * i + 6 := by
  have h1 := pk_sub_toInt (a := L) (b := 6) (by omega) (by omega)
  have h2 : (nI (6 * i)).toInt = ((6 * i : Nat) : Int) := nI_toInt (by omega)
  have h3 : (nI L - 6).toInt = (L : Int) - 6 := h1
  rw [Int32.lt_iff_toInt_lt, h3, h2]
  omega
section KL
variable {p : Program} {l : Launch} {e : Env} {R : Room} {s : State} {m : MethodId} {args : Array Value} {below : List Frame} {meth : Method} {c : Code} {H : Heap} {locs : List Loc} {cells slots : Nat} {Q : State → Prop}
variable {cc : ByteArray} {pc : Nat} {ls : Array Slot} {rest : List Value} {A : Nat → Prop} {H0 : Heap}
theorem kz_sld {j : Nat} (hexec : p.tables.exec = Jvm.exec) (hb : c.code = cc) {b L : Nat} {xs : Nat → Int32} (hX : va_X b L xs s H0) (hbl : b < H0.size) (hbA : ¬ A b) (hS : va_S A H0 H locs) (hj : j < L) (hL : L < 2 ^ 31) (hdg : decode cc pc = .ok (.iaload, 1))
    (kk : W p l e R s m args below meth c H locs cells slots Q (F0 m (pc + 1) ls (.int (xs j) :: rest))) : W p l e R s m args below meth c H locs cells slots Q (F0 m pc ls (.int (nI j) :: .ref b :: rest)) :=
  va_sld hexec hb hX hbl hbA hS (vp_in_nI hj hL) hdg (by rw [nI_clamp (Nat.lt_trans hj hL)]; exact kk)
end KL
end
section
set_option maxHeartbeats 4000000 in
set_option maxRecDepth 100000 in
/-- end -/
theorem law_op1 {p : Program} {l : Launch} {e : Env} {s : State} {m : MethodId} {below : List Frame} {meth : Method} {c : Code} {dC : Nat → ClassId} {dI : Nat → Nat → Nat} {b L : Nat} {xs : Nat → Int32} (hL : L ≤ 3072) (C0 : lw_At p s m meth c b L xs) {tS tT x0 qt qk qs qw qm y0 ac au ab ae am ap ak al af an ar : Nat} {cT cK cW cM cJ : ClassId} (hT : ks_tab tS tT (fun q : Nat => s.heap.size ≤ q) s s.heap) (hN : ks_nw s) (hK : va_K (dC, dI) vwCl [(cT, .byte), (cK, .byte), (cW, .int), (cM, .int), (cJ, .int)] s) {i : Nat} (hi : 6 * i + 6 ≤ L) (K : ∀ (ls : Array Slot) (H : Heap) (locs : List Loc), lw_I dC dI s b x0 qt qk qs qw qm y0 ac au ab ae am ap ak al af an ar cT cK cW cM cJ (i + 1) ls H locs → W p l e room_1 s m #[Value.ref b] below meth c H locs 18 4258 (lw_Z below #[Value.ref b] s) (F0 m 18 ls [])) {tn n : Nat} {hs : Int32} {v : ks_Q} {ft fk wd fs rt rk bl fr fn rs f : Nat → Int32} (hr : ks_rel i tn n hs v ft fk wd fs rt rk bl fr rs f) {H : Heap} {locs : List Loc} {ls : Array Slot} (hl : lv_has ls 4 [(3, .int (nI (6 * i))), (2, .ref y0), (1, .ref x0), (0, .ref b)]) (hP : va_P (dC, dI) vwCl [(x0, .inr (1, [.ref qt, .int (nI tn), .ref qk, .ref qs, .ref qm, .int hs])), (qt, .inl (cT, 2000, .inl ft)), (qk, .inl (cK, 16, .inl fk)), (qs, .inr (0, [.ref qw, .int (nI n), .int v.1, .int v.2.1, .int v.2.2.1, .int v.2.2.2])), (qw, .inl (cW, 16, .inl wd)), (qm, .inl (cM, 4, .inl fs)), (y0, .inr (2, [.ref ac, .ref au, .ref ab, .ref ae, .ref am, .ref ap, .int (nI tn), .ref ak, .ref al, .ref af, .ref an, .int (nI n), .ref ar, .int hs])), (ac, .inl (cJ, 64, .inl ks_k)), (au, .inl (cJ, 16, .inl ks_tt)), (ab, .inl (cJ, 4, .inl ks_begI)), (ae, .inl (cJ, 4, .inl ks_tmI)), (am, .inl (cJ, 4, .inl ks_moI)), (ap, .inl (cJ, 2000, .inl rt)), (ak, .inl (cJ, 16, .inl rk)), (al, .inl (cJ, 64, .inl bl)), (af, .inl (cJ, 4, .inl fr)), (an, .inl (cJ, 4, .inl fn)), (ar, .inl (cJ, 16, .inl rs))] H) (hD : va_D (fun q : Nat => s.heap.size ≤ q) [(x0, .inr (1, [.ref qt, .int (nI tn), .ref qk, .ref qs, .ref qm, .int hs])), (qt, .inl (cT, 2000, .inl ft)), (qk, .inl (cK, 16, .inl fk)), (qs, .inr (0, [.ref qw, .int (nI n), .int v.1, .int v.2.1, .int v.2.2.1, .int v.2.2.2])), (qw, .inl (cW, 16, .inl wd)), (qm, .inl (cM, 4, .inl fs)), (y0, .inr (2, [.ref ac, .ref au, .ref ab, .ref ae, .ref am, .ref ap, .int (nI tn), .ref ak, .ref al, .ref af, .ref an, .int (nI n), .ref ar, .int hs])), (ac, .inl (cJ, 64, .inl ks_k)), (au, .inl (cJ, 16, .inl ks_tt)), (ab, .inl (cJ, 4, .inl ks_begI)), (ae, .inl (cJ, 4, .inl ks_tmI)), (am, .inl (cJ, 4, .inl ks_moI)), (ap, .inl (cJ, 2000, .inl rt)), (ak, .inl (cJ, 16, .inl rk)), (al, .inl (cJ, 64, .inl bl)), (af, .inl (cJ, 4, .inl fr)), (an, .inl (cJ, 4, .inl fn)), (ar, .inl (cJ, 16, .inl rs))]) (hS : va_S (fun q : Nat => s.heap.size ≤ q) s.heap H locs) : W p l e room_1 s m #[Value.ref b] below meth c H locs 18 4258 (lw_Z below #[Value.ref b] s) (F0 m 139 ls []) := by
  obtain ⟨hx, hb, hret, hml, hown, hts, hX, hbl, hlocks, hgv⟩ := C0
  have hown : s.vm.findClass RL = some m.cls := hown
  have hA : ∀ q : Nat, s.heap.size ≤ q → (fun q : Nat => s.heap.size ≤ q) q := fun _ h => h
  have hbA : ¬ (fun q : Nat => s.heap.size ≤ q) b := Nat.not_le.mpr hbl
  obtain ⟨r1, r2, r3, r4, r5, r6, r7⟩ := hr
  by_cases hq : xs (6 * i + 1) < 0 ∨ nI tn < xs (6 * i + 1)
  · skip
    refine lv_aload_n hx hb dL_law_139 rfl (lv_at hl 2 rfl) ?_
    refine lv_aload_n hx hb dL_law_140 rfl (lv_at hl 3 rfl) ?_
    refine lv_iload_n hx hb dL_law_141 rfl (lv_at hl 0 rfl) ?_
    refine lv_iconst (v := 1) hx hb dL_law_142 (by decide) ?_
    refine lv_iadd hx hb dL_law_143 ?_
    refine kz_top (y := nI (6 * i + 1)) (nI_add (6 * i) 1) ?_
    refine kz_sld (j := (6 * i + 1)) hx hb hX hbl hbA hS (show (6 * i + 1) < L by omega) (by omega) dL_law_144 ?_
    have hPc := hP.sub (ws' := [(x0, .inr (1, [.ref qt, .int (nI tn), .ref qk, .ref qs, .ref qm, .int hs]))]) [0] rfl
    have hDc := hD.sub (ws' := [(x0, .inr (1, [.ref qt, .int (nI tn), .ref qk, .ref qs, .ref qm, .int hs]))]) [0] (by decide) rfl
    have hKc := hK.sub (tys' := []) [] rfl
    have hFc := va_free (wc := [(x0, .inr (1, [.ref qt, .int (nI tn), .ref qk, .ref qs, .ref qm, .int hs]))]) hD hS hA [0] rfl
    refine va_calli (va_runV (As := [.int (xs (6 * i + 1))]) (rest := []) ⟨hx, hb, hml, hown, hts⟩ (c_end_no l dC dI H.size x0 qt qk qs qm tn hs (xs (6 * i + 1)) hq) (cwV 1 hts gL_law_X1_end rfl rfl rfl (by decide +kernel) ⟨Nat.le_of_ble_eq_true rfl, Nat.le_of_ble_eq_true rfl⟩) ⟨fun a U g mk q => by obtain ⟨q0, q1, qP, qK, qD⟩ := q; exact ⟨q0, q1, qP, va_K.moved (u := U) (U := U.calling g mk a) (Vm.Alike.refl U.vm) qK, qD⟩, va_recv hKc hPc (ci := 1) (q0 := 0) rfl rfl, fun U hU hW => ⟨rfl, by rw [hU], by rw [hU]; exact hPc, va_K.moved hW.alike hKc, hDc.weaken (fun _ _ _ _ => trivial)⟩⟩ rfl rfl hl.1 rfl (lv_room (Nat.le_of_ble_eq_true rfl)) dL_law_145 ⟨Nat.le_of_ble_eq_true rfl, Nat.le_of_ble_eq_true rfl⟩) hS (fun q _ h => hFc q h) hFc (fun r u t H1 locs ht hvm hw hB hz1 hk1 hS => ?_)
    obtain ⟨hP1, hK1, hD1⟩ := hB
    rw [ht] at hP1
    have hK1 := va_K.moved hvm.symm hK1
    try dsimp only at hw
    obtain ⟨hP, hD⟩ := va_join (wr := [(qt, .inl (cT, 2000, .inl ft)), (qk, .inl (cK, 16, .inl fk)), (qs, .inr (0, [.ref qw, .int (nI n), .int v.1, .int v.2.1, .int v.2.2.1, .int v.2.2.2])), (qw, .inl (cW, 16, .inl wd)), (qm, .inl (cM, 4, .inl fs)), (y0, .inr (2, [.ref ac, .ref au, .ref ab, .ref ae, .ref am, .ref ap, .int (nI tn), .ref ak, .ref al, .ref af, .ref an, .int (nI n), .ref ar, .int hs])), (ac, .inl (cJ, 64, .inl ks_k)), (au, .inl (cJ, 16, .inl ks_tt)), (ab, .inl (cJ, 4, .inl ks_begI)), (ae, .inl (cJ, 4, .inl ks_tmI)), (am, .inl (cJ, 4, .inl ks_moI)), (ap, .inl (cJ, 2000, .inl rt)), (ak, .inl (cJ, 16, .inl rk)), (al, .inl (cJ, 64, .inl bl)), (af, .inl (cJ, 4, .inl fr)), (an, .inl (cJ, 4, .inl fn)), (ar, .inl (cJ, 16, .inl rs))]) (w1 := [(x0, .inr (1, [.ref qt, .int (nI tn), .ref qk, .ref qs, .ref qm, .int hs]))]) hP hD [0] [1, 2, 3, 4, 5, 6, 7, 8, 9, 10, 11, 12, 13, 14, 15, 16, 17] rfl rfl (by decide) (by decide) hk1 hFc hP1 hD1
    have hP := hP.sub (ws' := [(x0, .inr (1, [.ref qt, .int (nI tn), .ref qk, .ref qs, .ref qm, .int hs])), (qt, .inl (cT, 2000, .inl ft)), (qk, .inl (cK, 16, .inl fk)), (qs, .inr (0, [.ref qw, .int (nI n), .int v.1, .int v.2.1, .int v.2.2.1, .int v.2.2.2])), (qw, .inl (cW, 16, .inl wd)), (qm, .inl (cM, 4, .inl fs)), (y0, .inr (2, [.ref ac, .ref au, .ref ab, .ref ae, .ref am, .ref ap, .int (nI tn), .ref ak, .ref al, .ref af, .ref an, .int (nI n), .ref ar, .int hs])), (ac, .inl (cJ, 64, .inl ks_k)), (au, .inl (cJ, 16, .inl ks_tt)), (ab, .inl (cJ, 4, .inl ks_begI)), (ae, .inl (cJ, 4, .inl ks_tmI)), (am, .inl (cJ, 4, .inl ks_moI)), (ap, .inl (cJ, 2000, .inl rt)), (ak, .inl (cJ, 16, .inl rk)), (al, .inl (cJ, 64, .inl bl)), (af, .inl (cJ, 4, .inl fr)), (an, .inl (cJ, 4, .inl fn)), (ar, .inl (cJ, 16, .inl rs))]) [17, 0, 1, 2, 3, 4, 5, 6, 7, 8, 9, 10, 11, 12, 13, 14, 15, 16] rfl
    have hD := hD.sub (ws' := [(x0, .inr (1, [.ref qt, .int (nI tn), .ref qk, .ref qs, .ref qm, .int hs])), (qt, .inl (cT, 2000, .inl ft)), (qk, .inl (cK, 16, .inl fk)), (qs, .inr (0, [.ref qw, .int (nI n), .int v.1, .int v.2.1, .int v.2.2.1, .int v.2.2.2])), (qw, .inl (cW, 16, .inl wd)), (qm, .inl (cM, 4, .inl fs)), (y0, .inr (2, [.ref ac, .ref au, .ref ab, .ref ae, .ref am, .ref ap, .int (nI tn), .ref ak, .ref al, .ref af, .ref an, .int (nI n), .ref ar, .int hs])), (ac, .inl (cJ, 64, .inl ks_k)), (au, .inl (cJ, 16, .inl ks_tt)), (ab, .inl (cJ, 4, .inl ks_begI)), (ae, .inl (cJ, 4, .inl ks_tmI)), (am, .inl (cJ, 4, .inl ks_moI)), (ap, .inl (cJ, 2000, .inl rt)), (ak, .inl (cJ, 16, .inl rk)), (al, .inl (cJ, 64, .inl bl)), (af, .inl (cJ, 4, .inl fr)), (an, .inl (cJ, 4, .inl fn)), (ar, .inl (cJ, 16, .inl rs))]) [17, 0, 1, 2, 3, 4, 5, 6, 7, 8, 9, 10, 11, 12, 13, 14, 15, 16] (by decide) rfl
    generalize H1 = H at hP hS ⊢
    have hP : va_P (dC, dI) vwCl [(x0, .inr (1, [.ref qt, .int (nI tn), .ref qk, .ref qs, .ref qm, .int hs])), (qt, .inl (cT, 2000, .inl ft)), (qk, .inl (cK, 16, .inl fk)), (qs, .inr (0, [.ref qw, .int (nI n), .int v.1, .int v.2.1, .int v.2.2.1, .int v.2.2.2])), (qw, .inl (cW, 16, .inl wd)), (qm, .inl (cM, 4, .inl fs)), (y0, .inr (2, [.ref ac, .ref au, .ref ab, .ref ae, .ref am, .ref ap, .int (nI tn), .ref ak, .ref al, .ref af, .ref an, .int (nI n), .ref ar, .int hs])), (ac, .inl (cJ, 64, .inl ks_k)), (au, .inl (cJ, 16, .inl ks_tt)), (ab, .inl (cJ, 4, .inl ks_begI)), (ae, .inl (cJ, 4, .inl ks_tmI)), (am, .inl (cJ, 4, .inl ks_moI)), (ap, .inl (cJ, 2000, .inl rt)), (ak, .inl (cJ, 16, .inl rk)), (al, .inl (cJ, 64, .inl bl)), (af, .inl (cJ, 4, .inl fr)), (an, .inl (cJ, 4, .inl fn)), (ar, .inl (cJ, 16, .inl rs))] H := hP
    have hD : va_D (fun q : Nat => s.heap.size ≤ q) [(x0, .inr (1, [.ref qt, .int (nI tn), .ref qk, .ref qs, .ref qm, .int hs])), (qt, .inl (cT, 2000, .inl ft)), (qk, .inl (cK, 16, .inl fk)), (qs, .inr (0, [.ref qw, .int (nI n), .int v.1, .int v.2.1, .int v.2.2.1, .int v.2.2.2])), (qw, .inl (cW, 16, .inl wd)), (qm, .inl (cM, 4, .inl fs)), (y0, .inr (2, [.ref ac, .ref au, .ref ab, .ref ae, .ref am, .ref ap, .int (nI tn), .ref ak, .ref al, .ref af, .ref an, .int (nI n), .ref ar, .int hs])), (ac, .inl (cJ, 64, .inl ks_k)), (au, .inl (cJ, 16, .inl ks_tt)), (ab, .inl (cJ, 4, .inl ks_begI)), (ae, .inl (cJ, 4, .inl ks_tmI)), (am, .inl (cJ, 4, .inl ks_moI)), (ap, .inl (cJ, 2000, .inl rt)), (ak, .inl (cJ, 16, .inl rk)), (al, .inl (cJ, 64, .inl bl)), (af, .inl (cJ, 4, .inl fr)), (an, .inl (cJ, 4, .inl fn)), (ar, .inl (cJ, 16, .inl rs))] := hD
    subst hw
    refine lv_aload_n hx hb dL_law_148 rfl (lv_at hl 1 rfl) ?_
    refine lv_aload_n hx hb dL_law_149 rfl (lv_at hl 3 rfl) ?_
    refine lv_iload_n hx hb dL_law_150 rfl (lv_at hl 0 rfl) ?_
    refine lv_iconst (v := 1) hx hb dL_law_151 (by decide) ?_
    refine lv_iadd hx hb dL_law_152 ?_
    refine kz_top (y := nI (6 * i + 1)) (nI_add (6 * i) 1) ?_
    refine kz_sld (j := (6 * i + 1)) hx hb hX hbl hbA hS (show (6 * i + 1) < L by omega) (by omega) dL_law_153 ?_
    have hPc := hP.sub (ws' := [(y0, .inr (2, [.ref ac, .ref au, .ref ab, .ref ae, .ref am, .ref ap, .int (nI tn), .ref ak, .ref al, .ref af, .ref an, .int (nI n), .ref ar, .int hs]))]) [6] rfl
    have hDc := hD.sub (ws' := [(y0, .inr (2, [.ref ac, .ref au, .ref ab, .ref ae, .ref am, .ref ap, .int (nI tn), .ref ak, .ref al, .ref af, .ref an, .int (nI n), .ref ar, .int hs]))]) [6] (by decide) rfl
    have hKc := hK.sub (tys' := []) [] rfl
    have hFc := va_free (wc := [(y0, .inr (2, [.ref ac, .ref au, .ref ab, .ref ae, .ref am, .ref ap, .int (nI tn), .ref ak, .ref al, .ref af, .ref an, .int (nI n), .ref ar, .int hs]))]) hD hS hA [6] rfl
    refine va_calli (va_runV (As := [.int (xs (6 * i + 1))]) (rest := [.int 0]) ⟨hx, hb, hml, hown, hts⟩ (r_end_no l dC dI H.size y0 ac au ab ae am ap ak al af an ar cJ tn (nI n) hs (xs (6 * i + 1)) hq) (cwV 1 hts gL_law_X2_end rfl rfl rfl (by decide +kernel) ⟨Nat.le_of_ble_eq_true rfl, Nat.le_of_ble_eq_true rfl⟩) ⟨fun a U g mk q => by obtain ⟨q0, q1, qP, qK, qD⟩ := q; exact ⟨q0, q1, qP, va_K.moved (u := U) (U := U.calling g mk a) (Vm.Alike.refl U.vm) qK, qD⟩, va_recv hKc hPc (ci := 2) (q0 := 0) rfl rfl, fun U hU hW => ⟨rfl, by rw [hU], by rw [hU]; exact hPc, va_K.moved hW.alike hKc, hDc.weaken (fun _ _ _ _ => trivial)⟩⟩ rfl rfl hl.1 rfl (lv_room (Nat.le_of_ble_eq_true rfl)) dL_law_154 ⟨Nat.le_of_ble_eq_true rfl, Nat.le_of_ble_eq_true rfl⟩) hS (fun q _ h => hFc q h) hFc (fun r u t H1 locs ht hvm hw hB hz1 hk1 hS => ?_)
    obtain ⟨hP1, hK1, hD1⟩ := hB
    rw [ht] at hP1
    have hK1 := va_K.moved hvm.symm hK1
    try dsimp only at hw
    obtain ⟨hP, hD⟩ := va_join (wr := [(x0, .inr (1, [.ref qt, .int (nI tn), .ref qk, .ref qs, .ref qm, .int hs])), (qt, .inl (cT, 2000, .inl ft)), (qk, .inl (cK, 16, .inl fk)), (qs, .inr (0, [.ref qw, .int (nI n), .int v.1, .int v.2.1, .int v.2.2.1, .int v.2.2.2])), (qw, .inl (cW, 16, .inl wd)), (qm, .inl (cM, 4, .inl fs)), (ac, .inl (cJ, 64, .inl ks_k)), (au, .inl (cJ, 16, .inl ks_tt)), (ab, .inl (cJ, 4, .inl ks_begI)), (ae, .inl (cJ, 4, .inl ks_tmI)), (am, .inl (cJ, 4, .inl ks_moI)), (ap, .inl (cJ, 2000, .inl rt)), (ak, .inl (cJ, 16, .inl rk)), (al, .inl (cJ, 64, .inl bl)), (af, .inl (cJ, 4, .inl fr)), (an, .inl (cJ, 4, .inl fn)), (ar, .inl (cJ, 16, .inl rs))]) (w1 := [(y0, .inr (2, [.ref ac, .ref au, .ref ab, .ref ae, .ref am, .ref ap, .int (nI tn), .ref ak, .ref al, .ref af, .ref an, .int (nI n), .ref ar, .int hs]))]) hP hD [6] [0, 1, 2, 3, 4, 5, 7, 8, 9, 10, 11, 12, 13, 14, 15, 16, 17] rfl rfl (by decide) (by decide) hk1 hFc hP1 hD1
    have hP := hP.sub (ws' := [(x0, .inr (1, [.ref qt, .int (nI tn), .ref qk, .ref qs, .ref qm, .int hs])), (qt, .inl (cT, 2000, .inl ft)), (qk, .inl (cK, 16, .inl fk)), (qs, .inr (0, [.ref qw, .int (nI n), .int v.1, .int v.2.1, .int v.2.2.1, .int v.2.2.2])), (qw, .inl (cW, 16, .inl wd)), (qm, .inl (cM, 4, .inl fs)), (y0, .inr (2, [.ref ac, .ref au, .ref ab, .ref ae, .ref am, .ref ap, .int (nI tn), .ref ak, .ref al, .ref af, .ref an, .int (nI n), .ref ar, .int hs])), (ac, .inl (cJ, 64, .inl ks_k)), (au, .inl (cJ, 16, .inl ks_tt)), (ab, .inl (cJ, 4, .inl ks_begI)), (ae, .inl (cJ, 4, .inl ks_tmI)), (am, .inl (cJ, 4, .inl ks_moI)), (ap, .inl (cJ, 2000, .inl rt)), (ak, .inl (cJ, 16, .inl rk)), (al, .inl (cJ, 64, .inl bl)), (af, .inl (cJ, 4, .inl fr)), (an, .inl (cJ, 4, .inl fn)), (ar, .inl (cJ, 16, .inl rs))]) [0, 1, 2, 3, 4, 5, 17, 6, 7, 8, 9, 10, 11, 12, 13, 14, 15, 16] rfl
    have hD := hD.sub (ws' := [(x0, .inr (1, [.ref qt, .int (nI tn), .ref qk, .ref qs, .ref qm, .int hs])), (qt, .inl (cT, 2000, .inl ft)), (qk, .inl (cK, 16, .inl fk)), (qs, .inr (0, [.ref qw, .int (nI n), .int v.1, .int v.2.1, .int v.2.2.1, .int v.2.2.2])), (qw, .inl (cW, 16, .inl wd)), (qm, .inl (cM, 4, .inl fs)), (y0, .inr (2, [.ref ac, .ref au, .ref ab, .ref ae, .ref am, .ref ap, .int (nI tn), .ref ak, .ref al, .ref af, .ref an, .int (nI n), .ref ar, .int hs])), (ac, .inl (cJ, 64, .inl ks_k)), (au, .inl (cJ, 16, .inl ks_tt)), (ab, .inl (cJ, 4, .inl ks_begI)), (ae, .inl (cJ, 4, .inl ks_tmI)), (am, .inl (cJ, 4, .inl ks_moI)), (ap, .inl (cJ, 2000, .inl rt)), (ak, .inl (cJ, 16, .inl rk)), (al, .inl (cJ, 64, .inl bl)), (af, .inl (cJ, 4, .inl fr)), (an, .inl (cJ, 4, .inl fn)), (ar, .inl (cJ, 16, .inl rs))]) [0, 1, 2, 3, 4, 5, 17, 6, 7, 8, 9, 10, 11, 12, 13, 14, 15, 16] (by decide) rfl
    generalize H1 = H at hP hS ⊢
    have hP : va_P (dC, dI) vwCl [(x0, .inr (1, [.ref qt, .int (nI tn), .ref qk, .ref qs, .ref qm, .int hs])), (qt, .inl (cT, 2000, .inl ft)), (qk, .inl (cK, 16, .inl fk)), (qs, .inr (0, [.ref qw, .int (nI n), .int v.1, .int v.2.1, .int v.2.2.1, .int v.2.2.2])), (qw, .inl (cW, 16, .inl wd)), (qm, .inl (cM, 4, .inl fs)), (y0, .inr (2, [.ref ac, .ref au, .ref ab, .ref ae, .ref am, .ref ap, .int (nI tn), .ref ak, .ref al, .ref af, .ref an, .int (nI n), .ref ar, .int hs])), (ac, .inl (cJ, 64, .inl ks_k)), (au, .inl (cJ, 16, .inl ks_tt)), (ab, .inl (cJ, 4, .inl ks_begI)), (ae, .inl (cJ, 4, .inl ks_tmI)), (am, .inl (cJ, 4, .inl ks_moI)), (ap, .inl (cJ, 2000, .inl rt)), (ak, .inl (cJ, 16, .inl rk)), (al, .inl (cJ, 64, .inl bl)), (af, .inl (cJ, 4, .inl fr)), (an, .inl (cJ, 4, .inl fn)), (ar, .inl (cJ, 16, .inl rs))] H := hP
    have hD : va_D (fun q : Nat => s.heap.size ≤ q) [(x0, .inr (1, [.ref qt, .int (nI tn), .ref qk, .ref qs, .ref qm, .int hs])), (qt, .inl (cT, 2000, .inl ft)), (qk, .inl (cK, 16, .inl fk)), (qs, .inr (0, [.ref qw, .int (nI n), .int v.1, .int v.2.1, .int v.2.2.1, .int v.2.2.2])), (qw, .inl (cW, 16, .inl wd)), (qm, .inl (cM, 4, .inl fs)), (y0, .inr (2, [.ref ac, .ref au, .ref ab, .ref ae, .ref am, .ref ap, .int (nI tn), .ref ak, .ref al, .ref af, .ref an, .int (nI n), .ref ar, .int hs])), (ac, .inl (cJ, 64, .inl ks_k)), (au, .inl (cJ, 16, .inl ks_tt)), (ab, .inl (cJ, 4, .inl ks_begI)), (ae, .inl (cJ, 4, .inl ks_tmI)), (am, .inl (cJ, 4, .inl ks_moI)), (ap, .inl (cJ, 2000, .inl rt)), (ak, .inl (cJ, 16, .inl rk)), (al, .inl (cJ, 64, .inl bl)), (af, .inl (cJ, 4, .inl fr)), (an, .inl (cJ, 4, .inl fn)), (ar, .inl (cJ, 16, .inl rs))] := hD
    subst hw
    refine lv_icmp_eq (tgt := 283) hx hb dL_law_157 (by decide) (fun hc => ?_) (fun hc => ?_)
    · skip
      refine lv_iinc (v := nI (6 * (i + 1))) (lv' := [(3, .int (nI (6 * (i + 1)))), (2, .ref y0), (1, .ref x0), (0, .ref b)]) hx hb dL_law_283 hl (k := 0) rfl (by rw [Nat.mul_succ]; exact nI_add (6 * i) 6) (by decide) rfl (fun ls hl => ?_)
      refine lv_goto (tgt := 18) hx hb dL_law_286 (by decide) ?_
      exact K ls H locs ⟨tn, n, hs, v, ft, fk, wd, fs, rt, rk, bl, fr, fn, rs, f, ⟨r1, r2, r3, r4, r5, by omega, r7⟩, lv_sub hl [0, 1, 2, 3] rfl, hP, hD, hS⟩
    · skip
      exact absurd rfl hc
  · skip
    obtain ⟨k, hk1, hk2⟩ := nI_of (fun q => hq (Or.inl q))
    have hk3 : k ≤ tn := by
      rcases Nat.lt_or_ge tn k with q | q
      · exact absurd (Or.inr (by rw [hk2]; exact nI_lt q hk1)) hq
      · exact q
    refine lv_aload_n hx hb dL_law_139 rfl (lv_at hl 2 rfl) ?_
    refine lv_aload_n hx hb dL_law_140 rfl (lv_at hl 3 rfl) ?_
    refine lv_iload_n hx hb dL_law_141 rfl (lv_at hl 0 rfl) ?_
    refine lv_iconst (v := 1) hx hb dL_law_142 (by decide) ?_
    refine lv_iadd hx hb dL_law_143 ?_
    refine kz_top (y := nI (6 * i + 1)) (nI_add (6 * i) 1) ?_
    refine kz_sld (j := (6 * i + 1)) hx hb hX hbl hbA hS (show (6 * i + 1) < L by omega) (by omega) dL_law_144 ?_
    refine kz_top (y := nI k) hk2 ?_
    have hPc := hP.sub (ws' := [(x0, .inr (1, [.ref qt, .int (nI tn), .ref qk, .ref qs, .ref qm, .int hs]))]) [0] rfl
    have hDc := hD.sub (ws' := [(x0, .inr (1, [.ref qt, .int (nI tn), .ref qk, .ref qs, .ref qm, .int hs]))]) [0] (by decide) rfl
    have hKc := hK.sub (tys' := []) [] rfl
    have hFc := va_free (wc := [(x0, .inr (1, [.ref qt, .int (nI tn), .ref qk, .ref qs, .ref qm, .int hs]))]) hD hS hA [0] rfl
    refine va_calli (va_runV (As := [.int (nI k)]) (rest := []) ⟨hx, hb, hml, hown, hts⟩ (c_end_ok l dC dI H.size x0 qt qk qs qm tn hs k hk3 r1) (cwV 1 hts gL_law_X1_end rfl rfl rfl (by decide +kernel) ⟨Nat.le_of_ble_eq_true rfl, Nat.le_of_ble_eq_true rfl⟩) ⟨fun a U g mk q => by obtain ⟨q0, q1, qP, qK, qD⟩ := q; exact ⟨q0, q1, qP, va_K.moved (u := U) (U := U.calling g mk a) (Vm.Alike.refl U.vm) qK, qD⟩, va_recv hKc hPc (ci := 1) (q0 := 0) rfl rfl, fun U hU hW => ⟨rfl, by rw [hU], by rw [hU]; exact hPc, va_K.moved hW.alike hKc, hDc.weaken (fun _ _ _ _ => trivial)⟩⟩ rfl rfl hl.1 rfl (lv_room (Nat.le_of_ble_eq_true rfl)) dL_law_145 ⟨Nat.le_of_ble_eq_true rfl, Nat.le_of_ble_eq_true rfl⟩) hS (fun q _ h => hFc q h) hFc (fun r u t H1 locs ht hvm hw hB hz1 hk1 hS => ?_)
    obtain ⟨hP1, hK1, hD1⟩ := hB
    rw [ht] at hP1
    have hK1 := va_K.moved hvm.symm hK1
    try dsimp only at hw
    obtain ⟨hP, hD⟩ := va_join (wr := [(qt, .inl (cT, 2000, .inl ft)), (qk, .inl (cK, 16, .inl fk)), (qs, .inr (0, [.ref qw, .int (nI n), .int v.1, .int v.2.1, .int v.2.2.1, .int v.2.2.2])), (qw, .inl (cW, 16, .inl wd)), (qm, .inl (cM, 4, .inl fs)), (y0, .inr (2, [.ref ac, .ref au, .ref ab, .ref ae, .ref am, .ref ap, .int (nI tn), .ref ak, .ref al, .ref af, .ref an, .int (nI n), .ref ar, .int hs])), (ac, .inl (cJ, 64, .inl ks_k)), (au, .inl (cJ, 16, .inl ks_tt)), (ab, .inl (cJ, 4, .inl ks_begI)), (ae, .inl (cJ, 4, .inl ks_tmI)), (am, .inl (cJ, 4, .inl ks_moI)), (ap, .inl (cJ, 2000, .inl rt)), (ak, .inl (cJ, 16, .inl rk)), (al, .inl (cJ, 64, .inl bl)), (af, .inl (cJ, 4, .inl fr)), (an, .inl (cJ, 4, .inl fn)), (ar, .inl (cJ, 16, .inl rs))]) (w1 := [(x0, .inr (1, [.ref qt, .int (nI k), .ref qk, .ref qs, .ref qm, .int hs]))]) hP hD [0] [1, 2, 3, 4, 5, 6, 7, 8, 9, 10, 11, 12, 13, 14, 15, 16, 17] rfl rfl (by decide) (by decide) hk1 hFc hP1 hD1
    have hP := hP.sub (ws' := [(x0, .inr (1, [.ref qt, .int (nI k), .ref qk, .ref qs, .ref qm, .int hs])), (qt, .inl (cT, 2000, .inl ft)), (qk, .inl (cK, 16, .inl fk)), (qs, .inr (0, [.ref qw, .int (nI n), .int v.1, .int v.2.1, .int v.2.2.1, .int v.2.2.2])), (qw, .inl (cW, 16, .inl wd)), (qm, .inl (cM, 4, .inl fs)), (y0, .inr (2, [.ref ac, .ref au, .ref ab, .ref ae, .ref am, .ref ap, .int (nI tn), .ref ak, .ref al, .ref af, .ref an, .int (nI n), .ref ar, .int hs])), (ac, .inl (cJ, 64, .inl ks_k)), (au, .inl (cJ, 16, .inl ks_tt)), (ab, .inl (cJ, 4, .inl ks_begI)), (ae, .inl (cJ, 4, .inl ks_tmI)), (am, .inl (cJ, 4, .inl ks_moI)), (ap, .inl (cJ, 2000, .inl rt)), (ak, .inl (cJ, 16, .inl rk)), (al, .inl (cJ, 64, .inl bl)), (af, .inl (cJ, 4, .inl fr)), (an, .inl (cJ, 4, .inl fn)), (ar, .inl (cJ, 16, .inl rs))]) [17, 0, 1, 2, 3, 4, 5, 6, 7, 8, 9, 10, 11, 12, 13, 14, 15, 16] rfl
    have hD := hD.sub (ws' := [(x0, .inr (1, [.ref qt, .int (nI k), .ref qk, .ref qs, .ref qm, .int hs])), (qt, .inl (cT, 2000, .inl ft)), (qk, .inl (cK, 16, .inl fk)), (qs, .inr (0, [.ref qw, .int (nI n), .int v.1, .int v.2.1, .int v.2.2.1, .int v.2.2.2])), (qw, .inl (cW, 16, .inl wd)), (qm, .inl (cM, 4, .inl fs)), (y0, .inr (2, [.ref ac, .ref au, .ref ab, .ref ae, .ref am, .ref ap, .int (nI tn), .ref ak, .ref al, .ref af, .ref an, .int (nI n), .ref ar, .int hs])), (ac, .inl (cJ, 64, .inl ks_k)), (au, .inl (cJ, 16, .inl ks_tt)), (ab, .inl (cJ, 4, .inl ks_begI)), (ae, .inl (cJ, 4, .inl ks_tmI)), (am, .inl (cJ, 4, .inl ks_moI)), (ap, .inl (cJ, 2000, .inl rt)), (ak, .inl (cJ, 16, .inl rk)), (al, .inl (cJ, 64, .inl bl)), (af, .inl (cJ, 4, .inl fr)), (an, .inl (cJ, 4, .inl fn)), (ar, .inl (cJ, 16, .inl rs))]) [17, 0, 1, 2, 3, 4, 5, 6, 7, 8, 9, 10, 11, 12, 13, 14, 15, 16] (by decide) rfl
    generalize H1 = H at hP hS ⊢
    have hP : va_P (dC, dI) vwCl [(x0, .inr (1, [.ref qt, .int (nI k), .ref qk, .ref qs, .ref qm, .int hs])), (qt, .inl (cT, 2000, .inl ft)), (qk, .inl (cK, 16, .inl fk)), (qs, .inr (0, [.ref qw, .int (nI n), .int v.1, .int v.2.1, .int v.2.2.1, .int v.2.2.2])), (qw, .inl (cW, 16, .inl wd)), (qm, .inl (cM, 4, .inl fs)), (y0, .inr (2, [.ref ac, .ref au, .ref ab, .ref ae, .ref am, .ref ap, .int (nI tn), .ref ak, .ref al, .ref af, .ref an, .int (nI n), .ref ar, .int hs])), (ac, .inl (cJ, 64, .inl ks_k)), (au, .inl (cJ, 16, .inl ks_tt)), (ab, .inl (cJ, 4, .inl ks_begI)), (ae, .inl (cJ, 4, .inl ks_tmI)), (am, .inl (cJ, 4, .inl ks_moI)), (ap, .inl (cJ, 2000, .inl rt)), (ak, .inl (cJ, 16, .inl rk)), (al, .inl (cJ, 64, .inl bl)), (af, .inl (cJ, 4, .inl fr)), (an, .inl (cJ, 4, .inl fn)), (ar, .inl (cJ, 16, .inl rs))] H := hP
    have hD : va_D (fun q : Nat => s.heap.size ≤ q) [(x0, .inr (1, [.ref qt, .int (nI k), .ref qk, .ref qs, .ref qm, .int hs])), (qt, .inl (cT, 2000, .inl ft)), (qk, .inl (cK, 16, .inl fk)), (qs, .inr (0, [.ref qw, .int (nI n), .int v.1, .int v.2.1, .int v.2.2.1, .int v.2.2.2])), (qw, .inl (cW, 16, .inl wd)), (qm, .inl (cM, 4, .inl fs)), (y0, .inr (2, [.ref ac, .ref au, .ref ab, .ref ae, .ref am, .ref ap, .int (nI tn), .ref ak, .ref al, .ref af, .ref an, .int (nI n), .ref ar, .int hs])), (ac, .inl (cJ, 64, .inl ks_k)), (au, .inl (cJ, 16, .inl ks_tt)), (ab, .inl (cJ, 4, .inl ks_begI)), (ae, .inl (cJ, 4, .inl ks_tmI)), (am, .inl (cJ, 4, .inl ks_moI)), (ap, .inl (cJ, 2000, .inl rt)), (ak, .inl (cJ, 16, .inl rk)), (al, .inl (cJ, 64, .inl bl)), (af, .inl (cJ, 4, .inl fr)), (an, .inl (cJ, 4, .inl fn)), (ar, .inl (cJ, 16, .inl rs))] := hD
    subst hw
    refine lv_aload_n hx hb dL_law_148 rfl (lv_at hl 1 rfl) ?_
    refine lv_aload_n hx hb dL_law_149 rfl (lv_at hl 3 rfl) ?_
    refine lv_iload_n hx hb dL_law_150 rfl (lv_at hl 0 rfl) ?_
    refine lv_iconst (v := 1) hx hb dL_law_151 (by decide) ?_
    refine lv_iadd hx hb dL_law_152 ?_
    refine kz_top (y := nI (6 * i + 1)) (nI_add (6 * i) 1) ?_
    refine kz_sld (j := (6 * i + 1)) hx hb hX hbl hbA hS (show (6 * i + 1) < L by omega) (by omega) dL_law_153 ?_
    refine kz_top (y := nI k) hk2 ?_
    have hPc := hP.sub (ws' := [(y0, .inr (2, [.ref ac, .ref au, .ref ab, .ref ae, .ref am, .ref ap, .int (nI tn), .ref ak, .ref al, .ref af, .ref an, .int (nI n), .ref ar, .int hs]))]) [6] rfl
    have hDc := hD.sub (ws' := [(y0, .inr (2, [.ref ac, .ref au, .ref ab, .ref ae, .ref am, .ref ap, .int (nI tn), .ref ak, .ref al, .ref af, .ref an, .int (nI n), .ref ar, .int hs]))]) [6] (by decide) rfl
    have hKc := hK.sub (tys' := []) [] rfl
    have hFc := va_free (wc := [(y0, .inr (2, [.ref ac, .ref au, .ref ab, .ref ae, .ref am, .ref ap, .int (nI tn), .ref ak, .ref al, .ref af, .ref an, .int (nI n), .ref ar, .int hs]))]) hD hS hA [6] rfl
    refine va_calli (va_runV (As := [.int (nI k)]) (rest := [.int 1]) ⟨hx, hb, hml, hown, hts⟩ (r_end_ok l dC dI H.size y0 ac au ab ae am ap ak al af an ar cJ tn (nI n) hs k hk3 r1) (cwV 1 hts gL_law_X2_end rfl rfl rfl (by decide +kernel) ⟨Nat.le_of_ble_eq_true rfl, Nat.le_of_ble_eq_true rfl⟩) ⟨fun a U g mk q => by obtain ⟨q0, q1, qP, qK, qD⟩ := q; exact ⟨q0, q1, qP, va_K.moved (u := U) (U := U.calling g mk a) (Vm.Alike.refl U.vm) qK, qD⟩, va_recv hKc hPc (ci := 2) (q0 := 0) rfl rfl, fun U hU hW => ⟨rfl, by rw [hU], by rw [hU]; exact hPc, va_K.moved hW.alike hKc, hDc.weaken (fun _ _ _ _ => trivial)⟩⟩ rfl rfl hl.1 rfl (lv_room (Nat.le_of_ble_eq_true rfl)) dL_law_154 ⟨Nat.le_of_ble_eq_true rfl, Nat.le_of_ble_eq_true rfl⟩) hS (fun q _ h => hFc q h) hFc (fun r u t H1 locs ht hvm hw hB hz1 hk1 hS => ?_)
    obtain ⟨hP1, hK1, hD1⟩ := hB
    rw [ht] at hP1
    have hK1 := va_K.moved hvm.symm hK1
    try dsimp only at hw
    obtain ⟨hP, hD⟩ := va_join (wr := [(x0, .inr (1, [.ref qt, .int (nI k), .ref qk, .ref qs, .ref qm, .int hs])), (qt, .inl (cT, 2000, .inl ft)), (qk, .inl (cK, 16, .inl fk)), (qs, .inr (0, [.ref qw, .int (nI n), .int v.1, .int v.2.1, .int v.2.2.1, .int v.2.2.2])), (qw, .inl (cW, 16, .inl wd)), (qm, .inl (cM, 4, .inl fs)), (ac, .inl (cJ, 64, .inl ks_k)), (au, .inl (cJ, 16, .inl ks_tt)), (ab, .inl (cJ, 4, .inl ks_begI)), (ae, .inl (cJ, 4, .inl ks_tmI)), (am, .inl (cJ, 4, .inl ks_moI)), (ap, .inl (cJ, 2000, .inl rt)), (ak, .inl (cJ, 16, .inl rk)), (al, .inl (cJ, 64, .inl bl)), (af, .inl (cJ, 4, .inl fr)), (an, .inl (cJ, 4, .inl fn)), (ar, .inl (cJ, 16, .inl rs))]) (w1 := [(y0, .inr (2, [.ref ac, .ref au, .ref ab, .ref ae, .ref am, .ref ap, .int (nI k), .ref ak, .ref al, .ref af, .ref an, .int (nI n), .ref ar, .int hs]))]) hP hD [6] [0, 1, 2, 3, 4, 5, 7, 8, 9, 10, 11, 12, 13, 14, 15, 16, 17] rfl rfl (by decide) (by decide) hk1 hFc hP1 hD1
    have hP := hP.sub (ws' := [(x0, .inr (1, [.ref qt, .int (nI k), .ref qk, .ref qs, .ref qm, .int hs])), (qt, .inl (cT, 2000, .inl ft)), (qk, .inl (cK, 16, .inl fk)), (qs, .inr (0, [.ref qw, .int (nI n), .int v.1, .int v.2.1, .int v.2.2.1, .int v.2.2.2])), (qw, .inl (cW, 16, .inl wd)), (qm, .inl (cM, 4, .inl fs)), (y0, .inr (2, [.ref ac, .ref au, .ref ab, .ref ae, .ref am, .ref ap, .int (nI k), .ref ak, .ref al, .ref af, .ref an, .int (nI n), .ref ar, .int hs])), (ac, .inl (cJ, 64, .inl ks_k)), (au, .inl (cJ, 16, .inl ks_tt)), (ab, .inl (cJ, 4, .inl ks_begI)), (ae, .inl (cJ, 4, .inl ks_tmI)), (am, .inl (cJ, 4, .inl ks_moI)), (ap, .inl (cJ, 2000, .inl rt)), (ak, .inl (cJ, 16, .inl rk)), (al, .inl (cJ, 64, .inl bl)), (af, .inl (cJ, 4, .inl fr)), (an, .inl (cJ, 4, .inl fn)), (ar, .inl (cJ, 16, .inl rs))]) [0, 1, 2, 3, 4, 5, 17, 6, 7, 8, 9, 10, 11, 12, 13, 14, 15, 16] rfl
    have hD := hD.sub (ws' := [(x0, .inr (1, [.ref qt, .int (nI k), .ref qk, .ref qs, .ref qm, .int hs])), (qt, .inl (cT, 2000, .inl ft)), (qk, .inl (cK, 16, .inl fk)), (qs, .inr (0, [.ref qw, .int (nI n), .int v.1, .int v.2.1, .int v.2.2.1, .int v.2.2.2])), (qw, .inl (cW, 16, .inl wd)), (qm, .inl (cM, 4, .inl fs)), (y0, .inr (2, [.ref ac, .ref au, .ref ab, .ref ae, .ref am, .ref ap, .int (nI k), .ref ak, .ref al, .ref af, .ref an, .int (nI n), .ref ar, .int hs])), (ac, .inl (cJ, 64, .inl ks_k)), (au, .inl (cJ, 16, .inl ks_tt)), (ab, .inl (cJ, 4, .inl ks_begI)), (ae, .inl (cJ, 4, .inl ks_tmI)), (am, .inl (cJ, 4, .inl ks_moI)), (ap, .inl (cJ, 2000, .inl rt)), (ak, .inl (cJ, 16, .inl rk)), (al, .inl (cJ, 64, .inl bl)), (af, .inl (cJ, 4, .inl fr)), (an, .inl (cJ, 4, .inl fn)), (ar, .inl (cJ, 16, .inl rs))]) [0, 1, 2, 3, 4, 5, 17, 6, 7, 8, 9, 10, 11, 12, 13, 14, 15, 16] (by decide) rfl
    generalize H1 = H at hP hS ⊢
    have hP : va_P (dC, dI) vwCl [(x0, .inr (1, [.ref qt, .int (nI k), .ref qk, .ref qs, .ref qm, .int hs])), (qt, .inl (cT, 2000, .inl ft)), (qk, .inl (cK, 16, .inl fk)), (qs, .inr (0, [.ref qw, .int (nI n), .int v.1, .int v.2.1, .int v.2.2.1, .int v.2.2.2])), (qw, .inl (cW, 16, .inl wd)), (qm, .inl (cM, 4, .inl fs)), (y0, .inr (2, [.ref ac, .ref au, .ref ab, .ref ae, .ref am, .ref ap, .int (nI k), .ref ak, .ref al, .ref af, .ref an, .int (nI n), .ref ar, .int hs])), (ac, .inl (cJ, 64, .inl ks_k)), (au, .inl (cJ, 16, .inl ks_tt)), (ab, .inl (cJ, 4, .inl ks_begI)), (ae, .inl (cJ, 4, .inl ks_tmI)), (am, .inl (cJ, 4, .inl ks_moI)), (ap, .inl (cJ, 2000, .inl rt)), (ak, .inl (cJ, 16, .inl rk)), (al, .inl (cJ, 64, .inl bl)), (af, .inl (cJ, 4, .inl fr)), (an, .inl (cJ, 4, .inl fn)), (ar, .inl (cJ, 16, .inl rs))] H := hP
    have hD : va_D (fun q : Nat => s.heap.size ≤ q) [(x0, .inr (1, [.ref qt, .int (nI k), .ref qk, .ref qs, .ref qm, .int hs])), (qt, .inl (cT, 2000, .inl ft)), (qk, .inl (cK, 16, .inl fk)), (qs, .inr (0, [.ref qw, .int (nI n), .int v.1, .int v.2.1, .int v.2.2.1, .int v.2.2.2])), (qw, .inl (cW, 16, .inl wd)), (qm, .inl (cM, 4, .inl fs)), (y0, .inr (2, [.ref ac, .ref au, .ref ab, .ref ae, .ref am, .ref ap, .int (nI k), .ref ak, .ref al, .ref af, .ref an, .int (nI n), .ref ar, .int hs])), (ac, .inl (cJ, 64, .inl ks_k)), (au, .inl (cJ, 16, .inl ks_tt)), (ab, .inl (cJ, 4, .inl ks_begI)), (ae, .inl (cJ, 4, .inl ks_tmI)), (am, .inl (cJ, 4, .inl ks_moI)), (ap, .inl (cJ, 2000, .inl rt)), (ak, .inl (cJ, 16, .inl rk)), (al, .inl (cJ, 64, .inl bl)), (af, .inl (cJ, 4, .inl fr)), (an, .inl (cJ, 4, .inl fn)), (ar, .inl (cJ, 16, .inl rs))] := hD
    subst hw
    refine lv_icmp_eq (tgt := 283) hx hb dL_law_157 (by decide) (fun hc => ?_) (fun hc => ?_)
    · skip
      refine lv_iinc (v := nI (6 * (i + 1))) (lv' := [(3, .int (nI (6 * (i + 1)))), (2, .ref y0), (1, .ref x0), (0, .ref b)]) hx hb dL_law_283 hl (k := 0) rfl (by rw [Nat.mul_succ]; exact nI_add (6 * i) 6) (by decide) rfl (fun ls hl => ?_)
      refine lv_goto (tgt := 18) hx hb dL_law_286 (by decide) ?_
      exact K ls H locs ⟨k, n, hs, v, ft, fk, wd, fs, rt, rk, bl, fr, fn, rs, f, ⟨by omega, fun j hj => r2 j (by omega), r3, r4, r5, by omega, r7⟩, lv_sub hl [0, 1, 2, 3] rfl, hP, hD, hS⟩
    · skip
      exact absurd rfl hc
end
