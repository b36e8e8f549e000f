theorem goodIn_r {big : List Cond} (ws : List Cond) (ps : List Nat) (hp : ws = ps.filterMap (fun i => big[i]?)) (h : ws.all goodWord = true) : GoodIn big ws := by
  intro w hw
  have h1 := List.all_eq_true.mp h w hw
  rw [hp] at hw
  obtain ⟨i, -, hi⟩ := List.mem_filterMap.mp hw
  have hm : w ∈ big := by first | exact List.mem_of_getElem? hi | exact List.getElem?_mem hi
  exact ⟨hm, good_of_word h1⟩
theorem goodIn_app {big a b : List Cond} (ha : GoodIn big a) (hb : GoodIn big b) : GoodIn big (a ++ b) := fun w h => (List.mem_append.mp h).elim (ha w) (hb w)
theorem goodIn_ca {big a b : List Cond} {c : Cond} (ha : GoodIn big (c :: a)) (hb : GoodIn big b) : GoodIn big (c :: (a ++ b)) := fun w h => (List.mem_cons.mp h).elim (fun e => ha w (List.mem_cons.mpr (Or.inl e))) (fun h => (List.mem_append.mp h).elim (fun h => ha w (List.mem_cons.mpr (Or.inr h))) (hb w))
theorem goodIn_sub {big ws : List Cond} (hm : ∀ w ∈ ws, w ∈ big) (h : ws.all goodWord = true) : GoodIn big ws := fun w hw => ⟨hm w hw, good_of_word (List.all_eq_true.mp h w hw)⟩

def RX0 : String := "KeySums$Summer"
def TX0 : u_T := fun k => match k with
  | 0 => ("KeySums$Summer", "words", "[I", true)
  | 1 => ("KeySums$Summer", "count", "I", false)
  | 2 => ("KeySums$Summer", "a", "I", false)
  | 3 => ("KeySums$Summer", "b", "I", false)
  | 4 => ("KeySums$Summer", "c", "I", false)
  | _ => ("KeySums$Summer", "d", "I", false)
def tyX0 : Nat → FieldType := fun k => match k with
  | 0 => .array .int
  | 1 => .int
  | 2 => .int
  | 3 => .int
  | 4 => .int
  | _ => .int
abbrev wsX00 : List Cond := u_ws RX0 TX0 6
theorem nmX0 : ∀ a, a < 6 → ∀ b, b < 6 → a ≠ b → (TX0 a).2.1 ≠ (TX0 b).2.1 := by decide +kernel
theorem tyX0_ok : ∀ k, k < 6 → parseFieldDescriptor (TX0 k).2.2.1 = some (tyX0 k) := by decide +kernel
abbrev cX0_init : ByteArray := prog_2_method_1_code
def yX0_init : MethodName := ⟨RX0, "<init>", "()V"⟩
abbrev cX0_restart : ByteArray := prog_2_method_2_code
def yX0_restart : MethodName := ⟨RX0, "restart", "()V"⟩
abbrev cX0_take : ByteArray := prog_2_method_3_code
def yX0_take : MethodName := ⟨RX0, "take", "(I)V"⟩
abbrev cX0_close : ByteArray := prog_2_method_4_code
def yX0_close : MethodName := ⟨RX0, "close", "()V"⟩
abbrev cX0_mixBlock : ByteArray := prog_2_method_5_code
def yX0_mixBlock : MethodName := ⟨RX0, "mixBlock", "()V"⟩
abbrev cX0_choose : ByteArray := prog_2_method_6_code
def yX0_choose : MethodName := ⟨RX0, "choose", "(IIII)I"⟩
abbrev cX0_wordOf : ByteArray := prog_2_method_7_code
def yX0_wordOf : MethodName := ⟨RX0, "wordOf", "(II)I"⟩
abbrev cX0_turnLeft : ByteArray := prog_2_method_8_code
def yX0_turnLeft : MethodName := ⟨RX0, "turnLeft", "(II)I"⟩
def RX1 : String := "KeySums"
def TX1 : u_T := fun k => match k with
  | 0 => ("KeySums", "tape", "[B", true)
  | 1 => ("KeySums", "tapeSize", "I", false)
  | 2 => ("KeySums", "keyBytes", "[B", true)
  | 3 => ("KeySums", "summer", "LKeySums$Summer;", true)
  | 4 => ("KeySums", "keptSum", "[I", true)
  | _ => ("KeySums", "hasSum", "Z", false)
def tyX1 : Nat → FieldType := fun k => match k with
  | 0 => .array .byte
  | 1 => .int
  | 2 => .array .byte
  | 3 => .object "KeySums$Summer"
  | 4 => .array .int
  | _ => .boolean
abbrev wsX10 : List Cond := u_ws RX1 TX1 6
theorem nmX1 : ∀ a, a < 6 → ∀ b, b < 6 → a ≠ b → (TX1 a).2.1 ≠ (TX1 b).2.1 := by decide +kernel
theorem tyX1_ok : ∀ k, k < 6 → parseFieldDescriptor (TX1 k).2.2.1 = some (tyX1 k) := by decide +kernel
abbrev cX1_init : ByteArray := prog_1_method_1_code
def yX1_init : MethodName := ⟨RX1, "<init>", "()V"⟩
abbrev cX1_feed : ByteArray := prog_1_method_2_code
def yX1_feed : MethodName := ⟨RX1, "feed", "(IIIII)Z"⟩
abbrev cX1_end : ByteArray := prog_1_method_3_code
def yX1_end : MethodName := ⟨RX1, "end", "(I)Z"⟩
abbrev cX1_add : ByteArray := prog_1_method_4_code
def yX1_add : MethodName := ⟨RX1, "add", "()I"⟩
abbrev cX1_fill : ByteArray := prog_1_method_5_code
def yX1_fill : MethodName := ⟨RX1, "fill", "(II)I"⟩
abbrev cX1_key : ByteArray := prog_1_method_6_code
def yX1_key : MethodName := ⟨RX1, "key", "()I"⟩
abbrev cX1_sum : ByteArray := prog_1_method_7_code
def yX1_sum : MethodName := ⟨RX1, "sum", "(Z)I"⟩
abbrev cX1_sumAt : ByteArray := prog_1_method_8_code
def yX1_sumAt : MethodName := ⟨RX1, "sumAt", "(I)I"⟩
abbrev cX1_writeNumber : ByteArray := prog_1_method_9_code
def yX1_writeNumber : MethodName := ⟨RX1, "writeNumber", "(II)V"⟩
def RL : String := "KeySumsLaw"
abbrev cL_law : ByteArray := code
def yL_law : MethodName := ⟨RL, "law", "([I)Z"⟩
def wsX0_restart : List Cond := .code yX0_restart cX0_restart 1 none :: ([.fieldLink RX0 16 "KeySums$Summer" "count" "I", .constant RX0 20 (1732584193), .fieldLink RX0 21 "KeySums$Summer" "a" "I", .constant RX0 24 (-271733879), .fieldLink RX0 25 "KeySums$Summer" "b" "I", .constant RX0 28 (-1732584194), .fieldLink RX0 29 "KeySums$Summer" "c" "I", .constant RX0 32 (271733878), .fieldLink RX0 33 "KeySums$Summer" "d" "I"] ++ wsX00)
def wsX0_init : List Cond := .code yX0_init cX0_init 1 none :: ([.methodLink RX0 1 objectInit, .instanceMethod objectInit, .code objectInit ⟨#[0xb1]⟩ 1 none, .arrayClass .int, .fieldLink RX0 7 "KeySums$Summer" "words" "[I", .methodLink RX0 13 yX0_restart, .instanceMethod yX0_restart, .selects RX0 yX0_restart yX0_restart, .initialized RX0, .code yX0_restart cX0_restart 1 none, .fieldLink RX0 16 "KeySums$Summer" "count" "I", .constant RX0 20 (1732584193), .fieldLink RX0 21 "KeySums$Summer" "a" "I", .constant RX0 24 (-271733879), .fieldLink RX0 25 "KeySums$Summer" "b" "I", .constant RX0 28 (-1732584194), .fieldLink RX0 29 "KeySums$Summer" "c" "I", .constant RX0 32 (271733878), .fieldLink RX0 33 "KeySums$Summer" "d" "I"] ++ wsX00)
def wsX0_choose : List Cond := .code yX0_choose cX0_choose 4 (some .int) :: ([])
def wsX0_wordOf : List Cond := .code yX0_wordOf cX0_wordOf 2 (some .int) :: ([])
def wsX0_turnLeft : List Cond := .code yX0_turnLeft cX0_turnLeft 2 (some .int) :: ([])
def wsX0_mixBlock : List Cond := .code yX0_mixBlock cX0_mixBlock 9 none :: ([.fieldLink RX0 21 "KeySums$Summer" "a" "I", .fieldLink RX0 25 "KeySums$Summer" "b" "I", .fieldLink RX0 29 "KeySums$Summer" "c" "I", .fieldLink RX0 33 "KeySums$Summer" "d" "I", .fieldLink RX0 49 "KeySums$Summer" "SINES" "[I", .fieldLink RX0 7 "KeySums$Summer" "words" "[I", .fieldLink RX0 56 "KeySums$Summer" "TURNS" "[I", .methodLink RX0 45 yX0_choose, .static yX0_choose, .initialized RX0, .code yX0_choose cX0_choose 4 (some .int), .methodLink RX0 52 yX0_wordOf, .static yX0_wordOf, .code yX0_wordOf cX0_wordOf 2 (some .int), .methodLink RX0 59 yX0_turnLeft, .static yX0_turnLeft, .code yX0_turnLeft cX0_turnLeft 2 (some .int)] ++ wsX00)
def wsX0_take : List Cond := .code yX0_take cX0_take 3 none :: ([.fieldLink RX0 16 "KeySums$Summer" "count" "I", .fieldLink RX0 7 "KeySums$Summer" "words" "[I", .methodLink RX0 36 yX0_mixBlock, .instanceMethod yX0_mixBlock, .selects RX0 yX0_mixBlock yX0_mixBlock, .initialized RX0, .code yX0_mixBlock cX0_mixBlock 9 none, .fieldLink RX0 21 "KeySums$Summer" "a" "I", .fieldLink RX0 25 "KeySums$Summer" "b" "I", .fieldLink RX0 29 "KeySums$Summer" "c" "I", .fieldLink RX0 33 "KeySums$Summer" "d" "I", .fieldLink RX0 49 "KeySums$Summer" "SINES" "[I", .fieldLink RX0 56 "KeySums$Summer" "TURNS" "[I", .methodLink RX0 45 yX0_choose, .static yX0_choose, .code yX0_choose cX0_choose 4 (some .int), .methodLink RX0 52 yX0_wordOf, .static yX0_wordOf, .code yX0_wordOf cX0_wordOf 2 (some .int), .methodLink RX0 59 yX0_turnLeft, .static yX0_turnLeft, .code yX0_turnLeft cX0_turnLeft 2 (some .int)] ++ wsX00)
def wsX0_close_r1 : List Cond := [Cond.fieldLink RX0 16 "KeySums$Summer" "count" "I", Cond.constantLong RX0 39 (8), Cond.methodLink RX0 41 yX0_take, Cond.instanceMethod yX0_take, Cond.selects RX0 yX0_take yX0_take, Cond.initialized RX0, Cond.code yX0_take cX0_take 3 none, Cond.fieldLink RX0 7 "KeySums$Summer" "words" "[I", Cond.methodLink RX0 36 yX0_mixBlock, Cond.instanceMethod yX0_mixBlock, Cond.selects RX0 yX0_mixBlock yX0_mixBlock, Cond.code yX0_mixBlock cX0_mixBlock 9 none, Cond.fieldLink RX0 21 "KeySums$Summer" "a" "I", Cond.fieldLink RX0 25 "KeySums$Summer" "b" "I", Cond.fieldLink RX0 29 "KeySums$Summer" "c" "I", Cond.fieldLink RX0 33 "KeySums$Summer" "d" "I", Cond.fieldLink RX0 49 "KeySums$Summer" "SINES" "[I", Cond.fieldLink RX0 56 "KeySums$Summer" "TURNS" "[I", Cond.methodLink RX0 45 yX0_choose, Cond.static yX0_choose, Cond.code yX0_choose cX0_choose 4 (some .int), Cond.methodLink RX0 52 yX0_wordOf, Cond.static yX0_wordOf, Cond.code yX0_wordOf cX0_wordOf 2 (some .int)]
def wsX0_close_r2 : List Cond := [Cond.methodLink RX0 59 yX0_turnLeft, Cond.static yX0_turnLeft, Cond.code yX0_turnLeft cX0_turnLeft 2 (some .int)]
def wsX0_close : List Cond := .code yX0_close cX0_close 5 none :: ((wsX0_close_r1 ++ wsX0_close_r2) ++ wsX00)
def wsX1_init_r1 : List Cond := [Cond.methodLink RX1 1 objectInit, Cond.instanceMethod objectInit, Cond.code objectInit ⟨#[0xb1]⟩ 1 none, Cond.arrayClass .byte, Cond.fieldLink RX1 9 "KeySums" "tape" "[B", Cond.fieldLink RX1 13 "KeySums" "tapeSize" "I", Cond.fieldLink RX1 17 "KeySums" "keyBytes" "[B", Cond.classLink RX1 20 RX0, Cond.instantiable RX0 6, Cond.initialized RX0, Cond.fieldLink RX1 23 "KeySums" "summer" "LKeySums$Summer;", Cond.arrayClass .int, Cond.fieldLink RX1 27 "KeySums" "keptSum" "[I", Cond.fieldLink RX1 31 "KeySums" "hasSum" "Z", Cond.instanceMethod yX0_init, Cond.code yX0_init cX0_init 1 none, Cond.methodLink RX0 1 objectInit, Cond.fieldLink RX0 7 "KeySums$Summer" "words" "[I", Cond.methodLink RX0 13 yX0_restart, Cond.instanceMethod yX0_restart, Cond.selects RX0 yX0_restart yX0_restart, Cond.code yX0_restart cX0_restart 1 none, Cond.fieldLink RX0 16 "KeySums$Summer" "count" "I", Cond.constant RX0 20 (1732584193)]
def wsX1_init_r2 : List Cond := [Cond.fieldLink RX0 21 "KeySums$Summer" "a" "I", Cond.constant RX0 24 (-271733879), Cond.fieldLink RX0 25 "KeySums$Summer" "b" "I", Cond.constant RX0 28 (-1732584194), Cond.fieldLink RX0 29 "KeySums$Summer" "c" "I", Cond.constant RX0 32 (271733878), Cond.fieldLink RX0 33 "KeySums$Summer" "d" "I"]
def wsX1_init : List Cond := .code yX1_init cX1_init 1 none :: ((wsX1_init_r1 ++ wsX1_init_r2) ++ wsX10 ++ wsX00)
def wsX1_writeNumber : List Cond := .code yX1_writeNumber cX1_writeNumber 3 none :: ([.fieldLink RX1 9 "KeySums" "tape" "[B"] ++ wsX10)
def wsX1_feed : List Cond := .code yX1_feed cX1_feed 6 (some .boolean) :: ([.fieldLink RX1 13 "KeySums" "tapeSize" "I", .methodLink RX1 35 yX1_writeNumber, .instanceMethod yX1_writeNumber, .selects RX1 yX1_writeNumber yX1_writeNumber, .initialized RX1, .code yX1_writeNumber cX1_writeNumber 3 none, .fieldLink RX1 9 "KeySums" "tape" "[B"] ++ wsX10)
def wsX1_end : List Cond := .code yX1_end cX1_end 2 (some .boolean) :: ([.fieldLink RX1 13 "KeySums" "tapeSize" "I"] ++ wsX10)
def wsX1_add_r1 : List Cond := [Cond.fieldLink RX1 13 "KeySums" "tapeSize" "I", Cond.fieldLink RX1 23 "KeySums" "summer" "LKeySums$Summer;", Cond.fieldLink RX1 9 "KeySums" "tape" "[B", Cond.instanceMethod yX0_take, Cond.initialized RX0, Cond.selects RX0 yX0_take yX0_take, Cond.code yX0_take cX0_take 3 none, Cond.fieldLink RX0 16 "KeySums$Summer" "count" "I", Cond.fieldLink RX0 7 "KeySums$Summer" "words" "[I", Cond.methodLink RX0 36 yX0_mixBlock, Cond.instanceMethod yX0_mixBlock, Cond.selects RX0 yX0_mixBlock yX0_mixBlock, Cond.code yX0_mixBlock cX0_mixBlock 9 none, Cond.fieldLink RX0 21 "KeySums$Summer" "a" "I", Cond.fieldLink RX0 25 "KeySums$Summer" "b" "I", Cond.fieldLink RX0 29 "KeySums$Summer" "c" "I", Cond.fieldLink RX0 33 "KeySums$Summer" "d" "I", Cond.fieldLink RX0 49 "KeySums$Summer" "SINES" "[I", Cond.fieldLink RX0 56 "KeySums$Summer" "TURNS" "[I", Cond.methodLink RX0 45 yX0_choose, Cond.static yX0_choose, Cond.code yX0_choose cX0_choose 4 (some .int), Cond.methodLink RX0 52 yX0_wordOf, Cond.static yX0_wordOf]
def wsX1_add_r2 : List Cond := [Cond.code yX0_wordOf cX0_wordOf 2 (some .int), Cond.methodLink RX0 59 yX0_turnLeft, Cond.static yX0_turnLeft, Cond.code yX0_turnLeft cX0_turnLeft 2 (some .int)]
def wsX1_add : List Cond := .code yX1_add cX1_add 2 (some .int) :: ((wsX1_add_r1 ++ wsX1_add_r2) ++ wsX10 ++ wsX00)
def wsX1_fill_r1 : List Cond := [Cond.fieldLink RX1 23 "KeySums" "summer" "LKeySums$Summer;", Cond.instanceMethod yX0_take, Cond.initialized RX0, Cond.selects RX0 yX0_take yX0_take, Cond.code yX0_take cX0_take 3 none, Cond.fieldLink RX0 16 "KeySums$Summer" "count" "I", Cond.fieldLink RX0 7 "KeySums$Summer" "words" "[I", Cond.methodLink RX0 36 yX0_mixBlock, Cond.instanceMethod yX0_mixBlock, Cond.selects RX0 yX0_mixBlock yX0_mixBlock, Cond.code yX0_mixBlock cX0_mixBlock 9 none, Cond.fieldLink RX0 21 "KeySums$Summer" "a" "I", Cond.fieldLink RX0 25 "KeySums$Summer" "b" "I", Cond.fieldLink RX0 29 "KeySums$Summer" "c" "I", Cond.fieldLink RX0 33 "KeySums$Summer" "d" "I", Cond.fieldLink RX0 49 "KeySums$Summer" "SINES" "[I", Cond.fieldLink RX0 56 "KeySums$Summer" "TURNS" "[I", Cond.methodLink RX0 45 yX0_choose, Cond.static yX0_choose, Cond.code yX0_choose cX0_choose 4 (some .int), Cond.methodLink RX0 52 yX0_wordOf, Cond.static yX0_wordOf, Cond.code yX0_wordOf cX0_wordOf 2 (some .int), Cond.methodLink RX0 59 yX0_turnLeft]
def wsX1_fill_r2 : List Cond := [Cond.static yX0_turnLeft, Cond.code yX0_turnLeft cX0_turnLeft 2 (some .int)]
def wsX1_fill : List Cond := .code yX1_fill cX1_fill 4 (some .int) :: ((wsX1_fill_r1 ++ wsX1_fill_r2) ++ wsX10 ++ wsX00)
def wsX1_key : List Cond := .code yX1_key cX1_key 3 (some .int) :: ([.fieldLink RX1 13 "KeySums" "tapeSize" "I", .fieldLink RX1 17 "KeySums" "keyBytes" "[B", .fieldLink RX1 9 "KeySums" "tape" "[B"] ++ wsX10)
def wsX1_sum_r1 : List Cond := [Cond.fieldLink RX1 23 "KeySums" "summer" "LKeySums$Summer;", Cond.fieldLink RX1 17 "KeySums" "keyBytes" "[B", Cond.fieldLink RX1 27 "KeySums" "keptSum" "[I", Cond.fieldLink RX1 31 "KeySums" "hasSum" "Z", Cond.instanceMethod yX0_take, Cond.initialized RX0, Cond.selects RX0 yX0_take yX0_take, Cond.code yX0_take cX0_take 3 none, Cond.fieldLink RX0 16 "KeySums$Summer" "count" "I", Cond.fieldLink RX0 7 "KeySums$Summer" "words" "[I", Cond.methodLink RX0 36 yX0_mixBlock, Cond.instanceMethod yX0_mixBlock, Cond.selects RX0 yX0_mixBlock yX0_mixBlock, Cond.code yX0_mixBlock cX0_mixBlock 9 none, Cond.fieldLink RX0 21 "KeySums$Summer" "a" "I", Cond.fieldLink RX0 25 "KeySums$Summer" "b" "I", Cond.fieldLink RX0 29 "KeySums$Summer" "c" "I", Cond.fieldLink RX0 33 "KeySums$Summer" "d" "I", Cond.fieldLink RX0 49 "KeySums$Summer" "SINES" "[I", Cond.fieldLink RX0 56 "KeySums$Summer" "TURNS" "[I", Cond.methodLink RX0 45 yX0_choose, Cond.static yX0_choose, Cond.code yX0_choose cX0_choose 4 (some .int), Cond.methodLink RX0 52 yX0_wordOf]
def wsX1_sum_r2 : List Cond := [Cond.static yX0_wordOf, Cond.code yX0_wordOf cX0_wordOf 2 (some .int), Cond.methodLink RX0 59 yX0_turnLeft, Cond.static yX0_turnLeft, Cond.code yX0_turnLeft cX0_turnLeft 2 (some .int), Cond.instanceMethod yX0_close, Cond.selects RX0 yX0_close yX0_close, Cond.code yX0_close cX0_close 5 none, Cond.constantLong RX0 39 (8), Cond.methodLink RX0 41 yX0_take, Cond.instanceMethod yX0_restart, Cond.selects RX0 yX0_restart yX0_restart, Cond.code yX0_restart cX0_restart 1 none, Cond.constant RX0 20 (1732584193), Cond.constant RX0 24 (-271733879), Cond.constant RX0 28 (-1732584194), Cond.constant RX0 32 (271733878)]
def wsX1_sum : List Cond := .code yX1_sum cX1_sum 4 (some .int) :: ((wsX1_sum_r1 ++ wsX1_sum_r2) ++ wsX10 ++ wsX00)
def wsX1_sumAt : List Cond := .code yX1_sumAt cX1_sumAt 2 (some .int) :: ([.fieldLink RX1 31 "KeySums" "hasSum" "Z", .fieldLink RX1 27 "KeySums" "keptSum" "[I"] ++ wsX10)
set_option maxRecDepth 20000 in
theorem ggX0_init_X0_restart : GoodIn wsX0_init wsX0_restart := goodIn_r _ [10, 11, 12, 13, 14, 15, 16, 17, 18, 19, 20, 21, 22, 23, 24, 25] (by decide +kernel) (by decide +kernel)
set_option maxRecDepth 20000 in
theorem gX0_init_X0_restart : GoodIn wsX0_init (wsV RX0 13 RX0 yX0_restart wsX0_restart) := goodIn_app (goodIn_of _ (by decide +kernel)) ggX0_init_X0_restart
theorem dX0_init_0 : decode cX0_init 0 = .ok (.aload_n 0, 1) := by decide +kernel
theorem dX0_init_1 : decode cX0_init 1 = .ok (.invokespecial 1, 3) := by decide +kernel
theorem dX0_init_4 : decode cX0_init 4 = .ok (.aload_n 0, 1) := by decide +kernel
theorem dX0_init_5 : decode cX0_init 5 = .ok (.bipush 16, 2) := by decide +kernel
theorem dX0_init_7 : decode cX0_init 7 = .ok (.newarray .int, 2) := by decide +kernel
theorem dX0_init_9 : decode cX0_init 9 = .ok (.putfield 7, 3) := by decide +kernel
theorem dX0_init_12 : decode cX0_init 12 = .ok (.aload_n 0, 1) := by decide +kernel
theorem dX0_init_13 : decode cX0_init 13 = .ok (.invokevirtual 13, 3) := by decide +kernel
theorem dX0_init_16 : decode cX0_init 16 = .ok (.return_, 1) := by decide +kernel
theorem dX0_restart_0 : decode cX0_restart 0 = .ok (.aload_n 0, 1) := by decide +kernel
theorem dX0_restart_1 : decode cX0_restart 1 = .ok (.iconst 0, 1) := by decide +kernel
theorem dX0_restart_2 : decode cX0_restart 2 = .ok (.putfield 16, 3) := by decide +kernel
theorem dX0_restart_5 : decode cX0_restart 5 = .ok (.aload_n 0, 1) := by decide +kernel
theorem dX0_restart_6 : decode cX0_restart 6 = .ok (.ldc 20, 2) := by decide +kernel
theorem dX0_restart_8 : decode cX0_restart 8 = .ok (.putfield 21, 3) := by decide +kernel
theorem dX0_restart_11 : decode cX0_restart 11 = .ok (.aload_n 0, 1) := by decide +kernel
theorem dX0_restart_12 : decode cX0_restart 12 = .ok (.ldc 24, 2) := by decide +kernel
theorem dX0_restart_14 : decode cX0_restart 14 = .ok (.putfield 25, 3) := by decide +kernel
theorem dX0_restart_17 : decode cX0_restart 17 = .ok (.aload_n 0, 1) := by decide +kernel
theorem dX0_restart_18 : decode cX0_restart 18 = .ok (.ldc 28, 2) := by decide +kernel
theorem dX0_restart_20 : decode cX0_restart 20 = .ok (.putfield 29, 3) := by decide +kernel
theorem dX0_restart_23 : decode cX0_restart 23 = .ok (.aload_n 0, 1) := by decide +kernel
theorem dX0_restart_24 : decode cX0_restart 24 = .ok (.ldc 32, 2) := by decide +kernel
theorem dX0_restart_26 : decode cX0_restart 26 = .ok (.putfield 33, 3) := by decide +kernel
theorem dX0_restart_29 : decode cX0_restart 29 = .ok (.return_, 1) := by decide +kernel
set_option maxRecDepth 20000 in
theorem ggX0_take_X0_mixBlock : GoodIn wsX0_take wsX0_mixBlock := goodIn_r _ [7, 8, 9, 10, 11, 12, 2, 13, 14, 15, 6, 16, 17, 18, 19, 20, 21, 22, 23, 24, 25, 26, 27, 28] (by decide +kernel) (by decide +kernel)
set_option maxRecDepth 20000 in
theorem gX0_take_X0_mixBlock : GoodIn wsX0_take (wsV RX0 36 RX0 yX0_mixBlock wsX0_mixBlock) := goodIn_app (goodIn_of _ (by decide +kernel)) ggX0_take_X0_mixBlock
theorem dX0_take_0 : decode cX0_take 0 = .ok (.aload_n 0, 1) := by decide +kernel
theorem dX0_take_1 : decode cX0_take 1 = .ok (.getfield 16, 3) := by decide +kernel
theorem dX0_take_4 : decode cX0_take 4 = .ok (.bipush 63, 2) := by decide +kernel
theorem dX0_take_6 : decode cX0_take 6 = .ok (.iand, 1) := by decide +kernel
theorem dX0_take_7 : decode cX0_take 7 = .ok (.iconst 2, 1) := by decide +kernel
theorem dX0_take_8 : decode cX0_take 8 = .ok (.ishr, 1) := by decide +kernel
theorem dX0_take_9 : decode cX0_take 9 = .ok (.istore_n 2, 1) := by decide +kernel
theorem dX0_take_10 : decode cX0_take 10 = .ok (.aload_n 0, 1) := by decide +kernel
theorem dX0_take_11 : decode cX0_take 11 = .ok (.getfield 7, 3) := by decide +kernel
theorem dX0_take_14 : decode cX0_take 14 = .ok (.iload_n 2, 1) := by decide +kernel
theorem dX0_take_15 : decode cX0_take 15 = .ok (.aload_n 0, 1) := by decide +kernel
theorem dX0_take_16 : decode cX0_take 16 = .ok (.getfield 7, 3) := by decide +kernel
theorem dX0_take_19 : decode cX0_take 19 = .ok (.iload_n 2, 1) := by decide +kernel
theorem dX0_take_20 : decode cX0_take 20 = .ok (.iaload, 1) := by decide +kernel
theorem dX0_take_21 : decode cX0_take 21 = .ok (.bipush 8, 2) := by decide +kernel
theorem dX0_take_23 : decode cX0_take 23 = .ok (.iushr, 1) := by decide +kernel
theorem dX0_take_24 : decode cX0_take 24 = .ok (.iload_n 1, 1) := by decide +kernel
theorem dX0_take_25 : decode cX0_take 25 = .ok (.bipush 24, 2) := by decide +kernel
theorem dX0_take_27 : decode cX0_take 27 = .ok (.ishl, 1) := by decide +kernel
theorem dX0_take_28 : decode cX0_take 28 = .ok (.ior, 1) := by decide +kernel
theorem dX0_take_29 : decode cX0_take 29 = .ok (.iastore, 1) := by decide +kernel
theorem dX0_take_30 : decode cX0_take 30 = .ok (.aload_n 0, 1) := by decide +kernel
theorem dX0_take_31 : decode cX0_take 31 = .ok (.dup, 1) := by decide +kernel
theorem dX0_take_32 : decode cX0_take 32 = .ok (.getfield 16, 3) := by decide +kernel
theorem dX0_take_35 : decode cX0_take 35 = .ok (.iconst 1, 1) := by decide +kernel
theorem dX0_take_36 : decode cX0_take 36 = .ok (.iadd, 1) := by decide +kernel
theorem dX0_take_37 : decode cX0_take 37 = .ok (.putfield 16, 3) := by decide +kernel
theorem dX0_take_40 : decode cX0_take 40 = .ok (.aload_n 0, 1) := by decide +kernel
theorem dX0_take_41 : decode cX0_take 41 = .ok (.getfield 16, 3) := by decide +kernel
theorem dX0_take_44 : decode cX0_take 44 = .ok (.bipush 63, 2) := by decide +kernel
theorem dX0_take_46 : decode cX0_take 46 = .ok (.iand, 1) := by decide +kernel
theorem dX0_take_47 : decode cX0_take 47 = .ok (.ifCond .ne 7, 3) := by decide +kernel
theorem dX0_take_50 : decode cX0_take 50 = .ok (.aload_n 0, 1) := by decide +kernel
theorem dX0_take_51 : decode cX0_take 51 = .ok (.invokevirtual 36, 3) := by decide +kernel
theorem dX0_take_54 : decode cX0_take 54 = .ok (.return_, 1) := by decide +kernel
set_option maxRecDepth 20000 in
theorem ggX0_close_X0_take : GoodIn wsX0_close wsX0_take := goodIn_r _ [7, 1, 8, 9, 10, 11, 6, 12, 13, 14, 15, 16, 17, 18, 19, 20, 21, 22, 23, 24, 25, 26, 27, 28, 29, 30, 31, 32, 33] (by decide +kernel) (by decide +kernel)
set_option maxRecDepth 20000 in
theorem gX0_close_X0_take : GoodIn wsX0_close (wsV RX0 41 RX0 yX0_take wsX0_take) := goodIn_app (goodIn_of _ (by decide +kernel)) ggX0_close_X0_take
theorem dX0_close_0 : decode cX0_close 0 = .ok (.aload_n 0, 1) := by decide +kernel
theorem dX0_close_1 : decode cX0_close 1 = .ok (.getfield 16, 3) := by decide +kernel
theorem dX0_close_4 : decode cX0_close 4 = .ok (.i2l, 1) := by decide +kernel
theorem dX0_close_5 : decode cX0_close 5 = .ok (.ldc2_w 39, 3) := by decide +kernel
theorem dX0_close_8 : decode cX0_close 8 = .ok (.lmul, 1) := by decide +kernel
theorem dX0_close_9 : decode cX0_close 9 = .ok (.lstore_n 1, 1) := by decide +kernel
theorem dX0_close_10 : decode cX0_close 10 = .ok (.aload_n 0, 1) := by decide +kernel
theorem dX0_close_11 : decode cX0_close 11 = .ok (.sipush 128, 3) := by decide +kernel
theorem dX0_close_14 : decode cX0_close 14 = .ok (.invokevirtual 41, 3) := by decide +kernel
theorem dX0_close_17 : decode cX0_close 17 = .ok (.bipush 56, 2) := by decide +kernel
theorem dX0_close_19 : decode cX0_close 19 = .ok (.aload_n 0, 1) := by decide +kernel
theorem dX0_close_20 : decode cX0_close 20 = .ok (.getfield 16, 3) := by decide +kernel
theorem dX0_close_23 : decode cX0_close 23 = .ok (.isub, 1) := by decide +kernel
theorem dX0_close_24 : decode cX0_close 24 = .ok (.bipush 63, 2) := by decide +kernel
theorem dX0_close_26 : decode cX0_close 26 = .ok (.iand, 1) := by decide +kernel
theorem dX0_close_27 : decode cX0_close 27 = .ok (.istore_n 3, 1) := by decide +kernel
theorem dX0_close_28 : decode cX0_close 28 = .ok (.iconst 0, 1) := by decide +kernel
theorem dX0_close_29 : decode cX0_close 29 = .ok (.istore 4, 2) := by decide +kernel
theorem dX0_close_31 : decode cX0_close 31 = .ok (.iload 4, 2) := by decide +kernel
theorem dX0_close_33 : decode cX0_close 33 = .ok (.iload_n 3, 1) := by decide +kernel
theorem dX0_close_34 : decode cX0_close 34 = .ok (.if_icmp .ge 14, 3) := by decide +kernel
theorem dX0_close_37 : decode cX0_close 37 = .ok (.aload_n 0, 1) := by decide +kernel
theorem dX0_close_38 : decode cX0_close 38 = .ok (.iconst 0, 1) := by decide +kernel
theorem dX0_close_39 : decode cX0_close 39 = .ok (.invokevirtual 41, 3) := by decide +kernel
theorem dX0_close_42 : decode cX0_close 42 = .ok (.iinc 4 1, 3) := by decide +kernel
theorem dX0_close_45 : decode cX0_close 45 = .ok (.goto (-14), 3) := by decide +kernel
theorem dX0_close_48 : decode cX0_close 48 = .ok (.iconst 0, 1) := by decide +kernel
theorem dX0_close_49 : decode cX0_close 49 = .ok (.istore 4, 2) := by decide +kernel
theorem dX0_close_51 : decode cX0_close 51 = .ok (.iload 4, 2) := by decide +kernel
theorem dX0_close_53 : decode cX0_close 53 = .ok (.bipush 8, 2) := by decide +kernel
theorem dX0_close_55 : decode cX0_close 55 = .ok (.if_icmp .ge 21, 3) := by decide +kernel
theorem dX0_close_58 : decode cX0_close 58 = .ok (.aload_n 0, 1) := by decide +kernel
theorem dX0_close_59 : decode cX0_close 59 = .ok (.lload_n 1, 1) := by decide +kernel
theorem dX0_close_60 : decode cX0_close 60 = .ok (.bipush 8, 2) := by decide +kernel
theorem dX0_close_62 : decode cX0_close 62 = .ok (.iload 4, 2) := by decide +kernel
theorem dX0_close_64 : decode cX0_close 64 = .ok (.imul, 1) := by decide +kernel
theorem dX0_close_65 : decode cX0_close 65 = .ok (.lushr, 1) := by decide +kernel
theorem dX0_close_66 : decode cX0_close 66 = .ok (.l2i, 1) := by decide +kernel
theorem dX0_close_67 : decode cX0_close 67 = .ok (.invokevirtual 41, 3) := by decide +kernel
theorem dX0_close_70 : decode cX0_close 70 = .ok (.iinc 4 1, 3) := by decide +kernel
theorem dX0_close_73 : decode cX0_close 73 = .ok (.goto (-22), 3) := by decide +kernel
theorem dX0_close_76 : decode cX0_close 76 = .ok (.return_, 1) := by decide +kernel
set_option maxRecDepth 20000 in
theorem ggX0_mixBlock_X0_choose : GoodIn wsX0_mixBlock wsX0_choose := goodIn_r _ [11] (by decide +kernel) (by decide +kernel)
set_option maxRecDepth 20000 in
theorem gX0_mixBlock_X0_choose : GoodIn wsX0_mixBlock (va_wsS RX0 45 yX0_choose wsX0_choose) := goodIn_app (goodIn_of _ (by decide +kernel)) ggX0_mixBlock_X0_choose
set_option maxRecDepth 20000 in
theorem ggX0_mixBlock_X0_wordOf : GoodIn wsX0_mixBlock wsX0_wordOf := goodIn_r _ [14] (by decide +kernel) (by decide +kernel)
set_option maxRecDepth 20000 in
theorem gX0_mixBlock_X0_wordOf : GoodIn wsX0_mixBlock (va_wsS RX0 52 yX0_wordOf wsX0_wordOf) := goodIn_app (goodIn_of _ (by decide +kernel)) ggX0_mixBlock_X0_wordOf
set_option maxRecDepth 20000 in
theorem ggX0_mixBlock_X0_turnLeft : GoodIn wsX0_mixBlock wsX0_turnLeft := goodIn_r _ [17] (by decide +kernel) (by decide +kernel)
set_option maxRecDepth 20000 in
theorem gX0_mixBlock_X0_turnLeft : GoodIn wsX0_mixBlock (va_wsS RX0 59 yX0_turnLeft wsX0_turnLeft) := goodIn_app (goodIn_of _ (by decide +kernel)) ggX0_mixBlock_X0_turnLeft
theorem dX0_mixBlock_0 : decode cX0_mixBlock 0 = .ok (.aload_n 0, 1) := by decide +kernel
theorem dX0_mixBlock_1 : decode cX0_mixBlock 1 = .ok (.getfield 21, 3) := by decide +kernel
theorem dX0_mixBlock_4 : decode cX0_mixBlock 4 = .ok (.istore_n 1, 1) := by decide +kernel
theorem dX0_mixBlock_5 : decode cX0_mixBlock 5 = .ok (.aload_n 0, 1) := by decide +kernel
theorem dX0_mixBlock_6 : decode cX0_mixBlock 6 = .ok (.getfield 25, 3) := by decide +kernel
theorem dX0_mixBlock_9 : decode cX0_mixBlock 9 = .ok (.istore_n 2, 1) := by decide +kernel
theorem dX0_mixBlock_10 : decode cX0_mixBlock 10 = .ok (.aload_n 0, 1) := by decide +kernel
theorem dX0_mixBlock_11 : decode cX0_mixBlock 11 = .ok (.getfield 29, 3) := by decide +kernel
theorem dX0_mixBlock_14 : decode cX0_mixBlock 14 = .ok (.istore_n 3, 1) := by decide +kernel
theorem dX0_mixBlock_15 : decode cX0_mixBlock 15 = .ok (.aload_n 0, 1) := by decide +kernel
theorem dX0_mixBlock_16 : decode cX0_mixBlock 16 = .ok (.getfield 33, 3) := by decide +kernel
theorem dX0_mixBlock_19 : decode cX0_mixBlock 19 = .ok (.istore 4, 2) := by decide +kernel
theorem dX0_mixBlock_21 : decode cX0_mixBlock 21 = .ok (.iconst 0, 1) := by decide +kernel
theorem dX0_mixBlock_22 : decode cX0_mixBlock 22 = .ok (.istore 5, 2) := by decide +kernel
theorem dX0_mixBlock_24 : decode cX0_mixBlock 24 = .ok (.iload 5, 2) := by decide +kernel
theorem dX0_mixBlock_26 : decode cX0_mixBlock 26 = .ok (.bipush 64, 2) := by decide +kernel
theorem dX0_mixBlock_28 : decode cX0_mixBlock 28 = .ok (.if_icmp .ge 81, 3) := by decide +kernel
theorem dX0_mixBlock_31 : decode cX0_mixBlock 31 = .ok (.iload 5, 2) := by decide +kernel
theorem dX0_mixBlock_33 : decode cX0_mixBlock 33 = .ok (.iconst 4, 1) := by decide +kernel
theorem dX0_mixBlock_34 : decode cX0_mixBlock 34 = .ok (.ishr, 1) := by decide +kernel
theorem dX0_mixBlock_35 : decode cX0_mixBlock 35 = .ok (.istore 6, 2) := by decide +kernel
theorem dX0_mixBlock_37 : decode cX0_mixBlock 37 = .ok (.iload_n 1, 1) := by decide +kernel
theorem dX0_mixBlock_38 : decode cX0_mixBlock 38 = .ok (.iload 6, 2) := by decide +kernel
theorem dX0_mixBlock_40 : decode cX0_mixBlock 40 = .ok (.iload_n 2, 1) := by decide +kernel
theorem dX0_mixBlock_41 : decode cX0_mixBlock 41 = .ok (.iload_n 3, 1) := by decide +kernel
theorem dX0_mixBlock_42 : decode cX0_mixBlock 42 = .ok (.iload 4, 2) := by decide +kernel
theorem dX0_mixBlock_44 : decode cX0_mixBlock 44 = .ok (.invokestatic 45, 3) := by decide +kernel
theorem dX0_mixBlock_47 : decode cX0_mixBlock 47 = .ok (.iadd, 1) := by decide +kernel
theorem dX0_mixBlock_48 : decode cX0_mixBlock 48 = .ok (.getstatic 49, 3) := by decide +kernel
theorem dX0_mixBlock_51 : decode cX0_mixBlock 51 = .ok (.iload 5, 2) := by decide +kernel
theorem dX0_mixBlock_53 : decode cX0_mixBlock 53 = .ok (.iaload, 1) := by decide +kernel
theorem dX0_mixBlock_54 : decode cX0_mixBlock 54 = .ok (.iadd, 1) := by decide +kernel
theorem dX0_mixBlock_55 : decode cX0_mixBlock 55 = .ok (.aload_n 0, 1) := by decide +kernel
theorem dX0_mixBlock_56 : decode cX0_mixBlock 56 = .ok (.getfield 7, 3) := by decide +kernel
theorem dX0_mixBlock_59 : decode cX0_mixBlock 59 = .ok (.iload 6, 2) := by decide +kernel
theorem dX0_mixBlock_61 : decode cX0_mixBlock 61 = .ok (.iload 5, 2) := by decide +kernel
theorem dX0_mixBlock_63 : decode cX0_mixBlock 63 = .ok (.invokestatic 52, 3) := by decide +kernel
theorem dX0_mixBlock_66 : decode cX0_mixBlock 66 = .ok (.iaload, 1) := by decide +kernel
theorem dX0_mixBlock_67 : decode cX0_mixBlock 67 = .ok (.iadd, 1) := by decide +kernel
theorem dX0_mixBlock_68 : decode cX0_mixBlock 68 = .ok (.istore 7, 2) := by decide +kernel
theorem dX0_mixBlock_70 : decode cX0_mixBlock 70 = .ok (.iload 7, 2) := by decide +kernel
theorem dX0_mixBlock_72 : decode cX0_mixBlock 72 = .ok (.getstatic 56, 3) := by decide +kernel
theorem dX0_mixBlock_75 : decode cX0_mixBlock 75 = .ok (.iconst 4, 1) := by decide +kernel
theorem dX0_mixBlock_76 : decode cX0_mixBlock 76 = .ok (.iload 6, 2) := by decide +kernel
theorem dX0_mixBlock_78 : decode cX0_mixBlock 78 = .ok (.imul, 1) := by decide +kernel
theorem dX0_mixBlock_79 : decode cX0_mixBlock 79 = .ok (.iload 5, 2) := by decide +kernel
theorem dX0_mixBlock_81 : decode cX0_mixBlock 81 = .ok (.iconst 3, 1) := by decide +kernel
theorem dX0_mixBlock_82 : decode cX0_mixBlock 82 = .ok (.iand, 1) := by decide +kernel
theorem dX0_mixBlock_83 : decode cX0_mixBlock 83 = .ok (.iadd, 1) := by decide +kernel
theorem dX0_mixBlock_84 : decode cX0_mixBlock 84 = .ok (.iaload, 1) := by decide +kernel
theorem dX0_mixBlock_85 : decode cX0_mixBlock 85 = .ok (.invokestatic 59, 3) := by decide +kernel
theorem dX0_mixBlock_88 : decode cX0_mixBlock 88 = .ok (.istore 8, 2) := by decide +kernel
theorem dX0_mixBlock_90 : decode cX0_mixBlock 90 = .ok (.iload 4, 2) := by decide +kernel
theorem dX0_mixBlock_92 : decode cX0_mixBlock 92 = .ok (.istore_n 1, 1) := by decide +kernel
theorem dX0_mixBlock_93 : decode cX0_mixBlock 93 = .ok (.iload_n 3, 1) := by decide +kernel
theorem dX0_mixBlock_94 : decode cX0_mixBlock 94 = .ok (.istore 4, 2) := by decide +kernel
theorem dX0_mixBlock_96 : decode cX0_mixBlock 96 = .ok (.iload_n 2, 1) := by decide +kernel
theorem dX0_mixBlock_97 : decode cX0_mixBlock 97 = .ok (.istore_n 3, 1) := by decide +kernel
theorem dX0_mixBlock_98 : decode cX0_mixBlock 98 = .ok (.iload_n 2, 1) := by decide +kernel
theorem dX0_mixBlock_99 : decode cX0_mixBlock 99 = .ok (.iload 8, 2) := by decide +kernel
theorem dX0_mixBlock_101 : decode cX0_mixBlock 101 = .ok (.iadd, 1) := by decide +kernel
theorem dX0_mixBlock_102 : decode cX0_mixBlock 102 = .ok (.istore_n 2, 1) := by decide +kernel
theorem dX0_mixBlock_103 : decode cX0_mixBlock 103 = .ok (.iinc 5 1, 3) := by decide +kernel
theorem dX0_mixBlock_106 : decode cX0_mixBlock 106 = .ok (.goto (-82), 3) := by decide +kernel
theorem dX0_mixBlock_109 : decode cX0_mixBlock 109 = .ok (.aload_n 0, 1) := by decide +kernel
theorem dX0_mixBlock_110 : decode cX0_mixBlock 110 = .ok (.dup, 1) := by decide +kernel
theorem dX0_mixBlock_111 : decode cX0_mixBlock 111 = .ok (.getfield 21, 3) := by decide +kernel
theorem dX0_mixBlock_114 : decode cX0_mixBlock 114 = .ok (.iload_n 1, 1) := by decide +kernel
theorem dX0_mixBlock_115 : decode cX0_mixBlock 115 = .ok (.iadd, 1) := by decide +kernel
theorem dX0_mixBlock_116 : decode cX0_mixBlock 116 = .ok (.putfield 21, 3) := by decide +kernel
theorem dX0_mixBlock_119 : decode cX0_mixBlock 119 = .ok (.aload_n 0, 1) := by decide +kernel
theorem dX0_mixBlock_120 : decode cX0_mixBlock 120 = .ok (.dup, 1) := by decide +kernel
theorem dX0_mixBlock_121 : decode cX0_mixBlock 121 = .ok (.getfield 25, 3) := by decide +kernel
theorem dX0_mixBlock_124 : decode cX0_mixBlock 124 = .ok (.iload_n 2, 1) := by decide +kernel
theorem dX0_mixBlock_125 : decode cX0_mixBlock 125 = .ok (.iadd, 1) := by decide +kernel
theorem dX0_mixBlock_126 : decode cX0_mixBlock 126 = .ok (.putfield 25, 3) := by decide +kernel
theorem dX0_mixBlock_129 : decode cX0_mixBlock 129 = .ok (.aload_n 0, 1) := by decide +kernel
theorem dX0_mixBlock_130 : decode cX0_mixBlock 130 = .ok (.dup, 1) := by decide +kernel
theorem dX0_mixBlock_131 : decode cX0_mixBlock 131 = .ok (.getfield 29, 3) := by decide +kernel
theorem dX0_mixBlock_134 : decode cX0_mixBlock 134 = .ok (.iload_n 3, 1) := by decide +kernel
theorem dX0_mixBlock_135 : decode cX0_mixBlock 135 = .ok (.iadd, 1) := by decide +kernel
theorem dX0_mixBlock_136 : decode cX0_mixBlock 136 = .ok (.putfield 29, 3) := by decide +kernel
theorem dX0_mixBlock_139 : decode cX0_mixBlock 139 = .ok (.aload_n 0, 1) := by decide +kernel
theorem dX0_mixBlock_140 : decode cX0_mixBlock 140 = .ok (.dup, 1) := by decide +kernel
theorem dX0_mixBlock_141 : decode cX0_mixBlock 141 = .ok (.getfield 33, 3) := by decide +kernel
theorem dX0_mixBlock_144 : decode cX0_mixBlock 144 = .ok (.iload 4, 2) := by decide +kernel
theorem dX0_mixBlock_146 : decode cX0_mixBlock 146 = .ok (.iadd, 1) := by decide +kernel
theorem dX0_mixBlock_147 : decode cX0_mixBlock 147 = .ok (.putfield 33, 3) := by decide +kernel
theorem dX0_mixBlock_150 : decode cX0_mixBlock 150 = .ok (.return_, 1) := by decide +kernel
theorem dX0_choose_0 : decode cX0_choose 0 = .ok (.iload_n 0, 1) := by decide +kernel
theorem dX0_choose_1 : decode cX0_choose 1 = .ok (.tableswitch 53 0 2 #[27, 37, 47], 27) := by decide +kernel
theorem dX0_choose_28 : decode cX0_choose 28 = .ok (.iload_n 1, 1) := by decide +kernel
theorem dX0_choose_29 : decode cX0_choose 29 = .ok (.iload_n 2, 1) := by decide +kernel
theorem dX0_choose_30 : decode cX0_choose 30 = .ok (.iand, 1) := by decide +kernel
theorem dX0_choose_31 : decode cX0_choose 31 = .ok (.iload_n 1, 1) := by decide +kernel
theorem dX0_choose_32 : decode cX0_choose 32 = .ok (.iconst (-1), 1) := by decide +kernel
theorem dX0_choose_33 : decode cX0_choose 33 = .ok (.ixor, 1) := by decide +kernel
theorem dX0_choose_34 : decode cX0_choose 34 = .ok (.iload_n 3, 1) := by decide +kernel
theorem dX0_choose_35 : decode cX0_choose 35 = .ok (.iand, 1) := by decide +kernel
theorem dX0_choose_36 : decode cX0_choose 36 = .ok (.ior, 1) := by decide +kernel
theorem dX0_choose_37 : decode cX0_choose 37 = .ok (.ireturn, 1) := by decide +kernel
theorem dX0_choose_38 : decode cX0_choose 38 = .ok (.iload_n 3, 1) := by decide +kernel
theorem dX0_choose_39 : decode cX0_choose 39 = .ok (.iload_n 1, 1) := by decide +kernel
theorem dX0_choose_40 : decode cX0_choose 40 = .ok (.iand, 1) := by decide +kernel
theorem dX0_choose_41 : decode cX0_choose 41 = .ok (.iload_n 3, 1) := by decide +kernel
theorem dX0_choose_42 : decode cX0_choose 42 = .ok (.iconst (-1), 1) := by decide +kernel
theorem dX0_choose_43 : decode cX0_choose 43 = .ok (.ixor, 1) := by decide +kernel
theorem dX0_choose_44 : decode cX0_choose 44 = .ok (.iload_n 2, 1) := by decide +kernel
theorem dX0_choose_45 : decode cX0_choose 45 = .ok (.iand, 1) := by decide +kernel
theorem dX0_choose_46 : decode cX0_choose 46 = .ok (.ior, 1) := by decide +kernel
theorem dX0_choose_47 : decode cX0_choose 47 = .ok (.ireturn, 1) := by decide +kernel
theorem dX0_choose_48 : decode cX0_choose 48 = .ok (.iload_n 1, 1) := by decide +kernel
theorem dX0_choose_49 : decode cX0_choose 49 = .ok (.iload_n 2, 1) := by decide +kernel
theorem dX0_choose_50 : decode cX0_choose 50 = .ok (.ixor, 1) := by decide +kernel
theorem dX0_choose_51 : decode cX0_choose 51 = .ok (.iload_n 3, 1) := by decide +kernel
theorem dX0_choose_52 : decode cX0_choose 52 = .ok (.ixor, 1) := by decide +kernel
theorem dX0_choose_53 : decode cX0_choose 53 = .ok (.ireturn, 1) := by decide +kernel
theorem dX0_choose_54 : decode cX0_choose 54 = .ok (.iload_n 2, 1) := by decide +kernel
theorem dX0_choose_55 : decode cX0_choose 55 = .ok (.iload_n 1, 1) := by decide +kernel
theorem dX0_choose_56 : decode cX0_choose 56 = .ok (.iload_n 3, 1) := by decide +kernel
theorem dX0_choose_57 : decode cX0_choose 57 = .ok (.iconst (-1), 1) := by decide +kernel
theorem dX0_choose_58 : decode cX0_choose 58 = .ok (.ixor, 1) := by decide +kernel
theorem dX0_choose_59 : decode cX0_choose 59 = .ok (.ior, 1) := by decide +kernel
theorem dX0_choose_60 : decode cX0_choose 60 = .ok (.ixor, 1) := by decide +kernel
theorem dX0_choose_61 : decode cX0_choose 61 = .ok (.ireturn, 1) := by decide +kernel
theorem dX0_wordOf_0 : decode cX0_wordOf 0 = .ok (.iload_n 0, 1) := by decide +kernel
theorem dX0_wordOf_1 : decode cX0_wordOf 1 = .ok (.tableswitch 50 0 2 #[27, 32, 41], 27) := by decide +kernel
theorem dX0_wordOf_28 : decode cX0_wordOf 28 = .ok (.iload_n 1, 1) := by decide +kernel
theorem dX0_wordOf_29 : decode cX0_wordOf 29 = .ok (.bipush 15, 2) := by decide +kernel
theorem dX0_wordOf_31 : decode cX0_wordOf 31 = .ok (.iand, 1) := by decide +kernel
theorem dX0_wordOf_32 : decode cX0_wordOf 32 = .ok (.ireturn, 1) := by decide +kernel
theorem dX0_wordOf_33 : decode cX0_wordOf 33 = .ok (.iconst 5, 1) := by decide +kernel
theorem dX0_wordOf_34 : decode cX0_wordOf 34 = .ok (.iload_n 1, 1) := by decide +kernel
theorem dX0_wordOf_35 : decode cX0_wordOf 35 = .ok (.imul, 1) := by decide +kernel
theorem dX0_wordOf_36 : decode cX0_wordOf 36 = .ok (.iconst 1, 1) := by decide +kernel
theorem dX0_wordOf_37 : decode cX0_wordOf 37 = .ok (.iadd, 1) := by decide +kernel
theorem dX0_wordOf_38 : decode cX0_wordOf 38 = .ok (.bipush 15, 2) := by decide +kernel
theorem dX0_wordOf_40 : decode cX0_wordOf 40 = .ok (.iand, 1) := by decide +kernel
theorem dX0_wordOf_41 : decode cX0_wordOf 41 = .ok (.ireturn, 1) := by decide +kernel
theorem dX0_wordOf_42 : decode cX0_wordOf 42 = .ok (.iconst 3, 1) := by decide +kernel
theorem dX0_wordOf_43 : decode cX0_wordOf 43 = .ok (.iload_n 1, 1) := by decide +kernel
theorem dX0_wordOf_44 : decode cX0_wordOf 44 = .ok (.imul, 1) := by decide +kernel
theorem dX0_wordOf_45 : decode cX0_wordOf 45 = .ok (.iconst 5, 1) := by decide +kernel
theorem dX0_wordOf_46 : decode cX0_wordOf 46 = .ok (.iadd, 1) := by decide +kernel
theorem dX0_wordOf_47 : decode cX0_wordOf 47 = .ok (.bipush 15, 2) := by decide +kernel
theorem dX0_wordOf_49 : decode cX0_wordOf 49 = .ok (.iand, 1) := by decide +kernel
theorem dX0_wordOf_50 : decode cX0_wordOf 50 = .ok (.ireturn, 1) := by decide +kernel
theorem dX0_wordOf_51 : decode cX0_wordOf 51 = .ok (.bipush 7, 2) := by decide +kernel
theorem dX0_wordOf_53 : decode cX0_wordOf 53 = .ok (.iload_n 1, 1) := by decide +kernel
theorem dX0_wordOf_54 : decode cX0_wordOf 54 = .ok (.imul, 1) := by decide +kernel
theorem dX0_wordOf_55 : decode cX0_wordOf 55 = .ok (.bipush 15, 2) := by decide +kernel
theorem dX0_wordOf_57 : decode cX0_wordOf 57 = .ok (.iand, 1) := by decide +kernel
theorem dX0_wordOf_58 : decode cX0_wordOf 58 = .ok (.ireturn, 1) := by decide +kernel
theorem dX0_turnLeft_0 : decode cX0_turnLeft 0 = .ok (.iload_n 0, 1) := by decide +kernel
theorem dX0_turnLeft_1 : decode cX0_turnLeft 1 = .ok (.iload_n 1, 1) := by decide +kernel
theorem dX0_turnLeft_2 : decode cX0_turnLeft 2 = .ok (.ishl, 1) := by decide +kernel
theorem dX0_turnLeft_3 : decode cX0_turnLeft 3 = .ok (.iload_n 0, 1) := by decide +kernel
theorem dX0_turnLeft_4 : decode cX0_turnLeft 4 = .ok (.bipush 32, 2) := by decide +kernel
theorem dX0_turnLeft_6 : decode cX0_turnLeft 6 = .ok (.iload_n 1, 1) := by decide +kernel
theorem dX0_turnLeft_7 : decode cX0_turnLeft 7 = .ok (.isub, 1) := by decide +kernel
theorem dX0_turnLeft_8 : decode cX0_turnLeft 8 = .ok (.iushr, 1) := by decide +kernel
theorem dX0_turnLeft_9 : decode cX0_turnLeft 9 = .ok (.ior, 1) := by decide +kernel
theorem dX0_turnLeft_10 : decode cX0_turnLeft 10 = .ok (.ireturn, 1) := by decide +kernel
set_option maxRecDepth 20000 in
theorem ggX1_init_X0_init : GoodIn wsX1_init wsX0_init := goodIn_r _ [16, 17, 2, 3, 12, 18, 19, 20, 21, 10, 22, 23, 24, 25, 26, 27, 28, 29, 30, 31, 38, 39, 40, 41, 42, 43] (by decide +kernel) (by decide +kernel)
set_option maxRecDepth 20000 in
theorem gX1_init_X0_init_n22 : GoodIn wsX1_init (wsX0_init) := ggX1_init_X0_init
theorem dX1_init_0 : decode cX1_init 0 = .ok (.aload_n 0, 1) := by decide +kernel
theorem dX1_init_1 : decode cX1_init 1 = .ok (.invokespecial 1, 3) := by decide +kernel
theorem dX1_init_4 : decode cX1_init 4 = .ok (.aload_n 0, 1) := by decide +kernel
theorem dX1_init_5 : decode cX1_init 5 = .ok (.sipush 2000, 3) := by decide +kernel
theorem dX1_init_8 : decode cX1_init 8 = .ok (.newarray .byte, 2) := by decide +kernel
theorem dX1_init_10 : decode cX1_init 10 = .ok (.putfield 9, 3) := by decide +kernel
theorem dX1_init_13 : decode cX1_init 13 = .ok (.aload_n 0, 1) := by decide +kernel
theorem dX1_init_14 : decode cX1_init 14 = .ok (.iconst 0, 1) := by decide +kernel
theorem dX1_init_15 : decode cX1_init 15 = .ok (.putfield 13, 3) := by decide +kernel
theorem dX1_init_18 : decode cX1_init 18 = .ok (.aload_n 0, 1) := by decide +kernel
theorem dX1_init_19 : decode cX1_init 19 = .ok (.bipush 16, 2) := by decide +kernel
theorem dX1_init_21 : decode cX1_init 21 = .ok (.newarray .byte, 2) := by decide +kernel
theorem dX1_init_23 : decode cX1_init 23 = .ok (.putfield 17, 3) := by decide +kernel
theorem dX1_init_26 : decode cX1_init 26 = .ok (.aload_n 0, 1) := by decide +kernel
theorem dX1_init_27 : decode cX1_init 27 = .ok (.new 20, 3) := by decide +kernel
theorem dX1_init_30 : decode cX1_init 30 = .ok (.dup, 1) := by decide +kernel
theorem dX1_init_31 : decode cX1_init 31 = .ok (.invokespecial 22, 3) := by decide +kernel
theorem dX1_init_34 : decode cX1_init 34 = .ok (.putfield 23, 3) := by decide +kernel
theorem dX1_init_37 : decode cX1_init 37 = .ok (.aload_n 0, 1) := by decide +kernel
theorem dX1_init_38 : decode cX1_init 38 = .ok (.iconst 4, 1) := by decide +kernel
theorem dX1_init_39 : decode cX1_init 39 = .ok (.newarray .int, 2) := by decide +kernel
theorem dX1_init_41 : decode cX1_init 41 = .ok (.putfield 27, 3) := by decide +kernel
theorem dX1_init_44 : decode cX1_init 44 = .ok (.aload_n 0, 1) := by decide +kernel
theorem dX1_init_45 : decode cX1_init 45 = .ok (.iconst 0, 1) := by decide +kernel
theorem dX1_init_46 : decode cX1_init 46 = .ok (.putfield 31, 3) := by decide +kernel
theorem dX1_init_49 : decode cX1_init 49 = .ok (.return_, 1) := by decide +kernel
set_option maxRecDepth 20000 in
theorem ggX1_feed_X1_writeNumber : GoodIn wsX1_feed wsX1_writeNumber := goodIn_r _ [6, 7, 8, 9, 10, 11, 12, 13] (by decide +kernel) (by decide +kernel)
set_option maxRecDepth 20000 in
theorem gX1_feed_X1_writeNumber : GoodIn wsX1_feed (wsV RX1 35 RX1 yX1_writeNumber wsX1_writeNumber) := goodIn_app (goodIn_of _ (by decide +kernel)) ggX1_feed_X1_writeNumber
theorem dX1_feed_0 : decode cX1_feed 0 = .ok (.aload_n 0, 1) := by decide +kernel
theorem dX1_feed_1 : decode cX1_feed 1 = .ok (.getfield 13, 3) := by decide +kernel
theorem dX1_feed_4 : decode cX1_feed 4 = .ok (.sipush 1980, 3) := by decide +kernel
theorem dX1_feed_7 : decode cX1_feed 7 = .ok (.if_icmp .le 5, 3) := by decide +kernel
theorem dX1_feed_10 : decode cX1_feed 10 = .ok (.iconst 0, 1) := by decide +kernel
theorem dX1_feed_11 : decode cX1_feed 11 = .ok (.ireturn, 1) := by decide +kernel
theorem dX1_feed_12 : decode cX1_feed 12 = .ok (.aload_n 0, 1) := by decide +kernel
theorem dX1_feed_13 : decode cX1_feed 13 = .ok (.aload_n 0, 1) := by decide +kernel
theorem dX1_feed_14 : decode cX1_feed 14 = .ok (.getfield 13, 3) := by decide +kernel
theorem dX1_feed_17 : decode cX1_feed 17 = .ok (.iload_n 1, 1) := by decide +kernel
theorem dX1_feed_18 : decode cX1_feed 18 = .ok (.invokevirtual 35, 3) := by decide +kernel
theorem dX1_feed_21 : decode cX1_feed 21 = .ok (.aload_n 0, 1) := by decide +kernel
theorem dX1_feed_22 : decode cX1_feed 22 = .ok (.aload_n 0, 1) := by decide +kernel
theorem dX1_feed_23 : decode cX1_feed 23 = .ok (.getfield 13, 3) := by decide +kernel
theorem dX1_feed_26 : decode cX1_feed 26 = .ok (.iconst 4, 1) := by decide +kernel
theorem dX1_feed_27 : decode cX1_feed 27 = .ok (.iadd, 1) := by decide +kernel
theorem dX1_feed_28 : decode cX1_feed 28 = .ok (.iload_n 2, 1) := by decide +kernel
theorem dX1_feed_29 : decode cX1_feed 29 = .ok (.invokevirtual 35, 3) := by decide +kernel
theorem dX1_feed_32 : decode cX1_feed 32 = .ok (.aload_n 0, 1) := by decide +kernel
theorem dX1_feed_33 : decode cX1_feed 33 = .ok (.aload_n 0, 1) := by decide +kernel
theorem dX1_feed_34 : decode cX1_feed 34 = .ok (.getfield 13, 3) := by decide +kernel
theorem dX1_feed_37 : decode cX1_feed 37 = .ok (.bipush 8, 2) := by decide +kernel
theorem dX1_feed_39 : decode cX1_feed 39 = .ok (.iadd, 1) := by decide +kernel
theorem dX1_feed_40 : decode cX1_feed 40 = .ok (.iload_n 3, 1) := by decide +kernel
theorem dX1_feed_41 : decode cX1_feed 41 = .ok (.invokevirtual 35, 3) := by decide +kernel
theorem dX1_feed_44 : decode cX1_feed 44 = .ok (.aload_n 0, 1) := by decide +kernel
theorem dX1_feed_45 : decode cX1_feed 45 = .ok (.aload_n 0, 1) := by decide +kernel
theorem dX1_feed_46 : decode cX1_feed 46 = .ok (.getfield 13, 3) := by decide +kernel
theorem dX1_feed_49 : decode cX1_feed 49 = .ok (.bipush 12, 2) := by decide +kernel
theorem dX1_feed_51 : decode cX1_feed 51 = .ok (.iadd, 1) := by decide +kernel
theorem dX1_feed_52 : decode cX1_feed 52 = .ok (.iload 4, 2) := by decide +kernel
theorem dX1_feed_54 : decode cX1_feed 54 = .ok (.invokevirtual 35, 3) := by decide +kernel
theorem dX1_feed_57 : decode cX1_feed 57 = .ok (.aload_n 0, 1) := by decide +kernel
theorem dX1_feed_58 : decode cX1_feed 58 = .ok (.aload_n 0, 1) := by decide +kernel
theorem dX1_feed_59 : decode cX1_feed 59 = .ok (.getfield 13, 3) := by decide +kernel
theorem dX1_feed_62 : decode cX1_feed 62 = .ok (.bipush 16, 2) := by decide +kernel
theorem dX1_feed_64 : decode cX1_feed 64 = .ok (.iadd, 1) := by decide +kernel
theorem dX1_feed_65 : decode cX1_feed 65 = .ok (.iload 5, 2) := by decide +kernel
theorem dX1_feed_67 : decode cX1_feed 67 = .ok (.invokevirtual 35, 3) := by decide +kernel
theorem dX1_feed_70 : decode cX1_feed 70 = .ok (.aload_n 0, 1) := by decide +kernel
theorem dX1_feed_71 : decode cX1_feed 71 = .ok (.dup, 1) := by decide +kernel
theorem dX1_feed_72 : decode cX1_feed 72 = .ok (.getfield 13, 3) := by decide +kernel
theorem dX1_feed_75 : decode cX1_feed 75 = .ok (.bipush 20, 2) := by decide +kernel
theorem dX1_feed_77 : decode cX1_feed 77 = .ok (.iadd, 1) := by decide +kernel
theorem dX1_feed_78 : decode cX1_feed 78 = .ok (.putfield 13, 3) := by decide +kernel
theorem dX1_feed_81 : decode cX1_feed 81 = .ok (.iconst 1, 1) := by decide +kernel
theorem dX1_feed_82 : decode cX1_feed 82 = .ok (.ireturn, 1) := by decide +kernel
theorem dX1_end_0 : decode cX1_end 0 = .ok (.iload_n 1, 1) := by decide +kernel
theorem dX1_end_1 : decode cX1_end 1 = .ok (.ifCond .lt 11, 3) := by decide +kernel
theorem dX1_end_4 : decode cX1_end 4 = .ok (.iload_n 1, 1) := by decide +kernel
theorem dX1_end_5 : decode cX1_end 5 = .ok (.aload_n 0, 1) := by decide +kernel
theorem dX1_end_6 : decode cX1_end 6 = .ok (.getfield 13, 3) := by decide +kernel
theorem dX1_end_9 : decode cX1_end 9 = .ok (.if_icmp .le 5, 3) := by decide +kernel
theorem dX1_end_12 : decode cX1_end 12 = .ok (.iconst 0, 1) := by decide +kernel
theorem dX1_end_13 : decode cX1_end 13 = .ok (.ireturn, 1) := by decide +kernel
theorem dX1_end_14 : decode cX1_end 14 = .ok (.aload_n 0, 1) := by decide +kernel
theorem dX1_end_15 : decode cX1_end 15 = .ok (.iload_n 1, 1) := by decide +kernel
theorem dX1_end_16 : decode cX1_end 16 = .ok (.putfield 13, 3) := by decide +kernel
theorem dX1_end_19 : decode cX1_end 19 = .ok (.iconst 1, 1) := by decide +kernel
theorem dX1_end_20 : decode cX1_end 20 = .ok (.ireturn, 1) := by decide +kernel
set_option maxRecDepth 20000 in
theorem ggX1_add_X0_take : GoodIn wsX1_add wsX0_take := goodIn_r _ [7, 8, 9, 10, 11, 12, 5, 13, 14, 15, 16, 17, 18, 19, 20, 21, 22, 23, 24, 25, 26, 27, 28, 35, 36, 37, 38, 39, 40] (by decide +kernel) (by decide +kernel)
set_option maxRecDepth 20000 in
theorem gX1_add_X0_take_n39 : GoodIn wsX1_add (wsX0_take) := ggX1_add_X0_take
theorem dX1_add_0 : decode cX1_add 0 = .ok (.iconst 0, 1) := by decide +kernel
theorem dX1_add_1 : decode cX1_add 1 = .ok (.istore_n 1, 1) := by decide +kernel
theorem dX1_add_2 : decode cX1_add 2 = .ok (.iload_n 1, 1) := by decide +kernel
theorem dX1_add_3 : decode cX1_add 3 = .ok (.aload_n 0, 1) := by decide +kernel
theorem dX1_add_4 : decode cX1_add 4 = .ok (.getfield 13, 3) := by decide +kernel
theorem dX1_add_7 : decode cX1_add 7 = .ok (.if_icmp .ge 22, 3) := by decide +kernel
theorem dX1_add_10 : decode cX1_add 10 = .ok (.aload_n 0, 1) := by decide +kernel
theorem dX1_add_11 : decode cX1_add 11 = .ok (.getfield 23, 3) := by decide +kernel
theorem dX1_add_14 : decode cX1_add 14 = .ok (.aload_n 0, 1) := by decide +kernel
theorem dX1_add_15 : decode cX1_add 15 = .ok (.getfield 9, 3) := by decide +kernel
theorem dX1_add_18 : decode cX1_add 18 = .ok (.iload_n 1, 1) := by decide +kernel
theorem dX1_add_19 : decode cX1_add 19 = .ok (.baload, 1) := by decide +kernel
theorem dX1_add_20 : decode cX1_add 20 = .ok (.invokevirtual 39, 3) := by decide +kernel
theorem dX1_add_23 : decode cX1_add 23 = .ok (.iinc 1 1, 3) := by decide +kernel
theorem dX1_add_26 : decode cX1_add 26 = .ok (.goto (-24), 3) := by decide +kernel
theorem dX1_add_29 : decode cX1_add 29 = .ok (.aload_n 0, 1) := by decide +kernel
theorem dX1_add_30 : decode cX1_add 30 = .ok (.iconst 0, 1) := by decide +kernel
theorem dX1_add_31 : decode cX1_add 31 = .ok (.putfield 13, 3) := by decide +kernel
theorem dX1_add_34 : decode cX1_add 34 = .ok (.aload_n 0, 1) := by decide +kernel
theorem dX1_add_35 : decode cX1_add 35 = .ok (.getfield 23, 3) := by decide +kernel
theorem dX1_add_38 : decode cX1_add 38 = .ok (.getfield 43, 3) := by decide +kernel
theorem dX1_add_41 : decode cX1_add 41 = .ok (.ireturn, 1) := by decide +kernel
set_option maxRecDepth 20000 in
theorem ggX1_fill_X0_take : GoodIn wsX1_fill wsX0_take := goodIn_r _ [5, 6, 7, 8, 9, 10, 3, 11, 12, 13, 14, 15, 16, 17, 18, 19, 20, 21, 22, 23, 24, 25, 26, 33, 34, 35, 36, 37, 38] (by decide +kernel) (by decide +kernel)
set_option maxRecDepth 20000 in
theorem gX1_fill_X0_take_n39 : GoodIn wsX1_fill (wsX0_take) := ggX1_fill_X0_take
theorem dX1_fill_0 : decode cX1_fill 0 = .ok (.iload_n 1, 1) := by decide +kernel
theorem dX1_fill_1 : decode cX1_fill 1 = .ok (.ifCond .lt 10, 3) := by decide +kernel
theorem dX1_fill_4 : decode cX1_fill 4 = .ok (.iload_n 1, 1) := by decide +kernel
theorem dX1_fill_5 : decode cX1_fill 5 = .ok (.sipush 4000, 3) := by decide +kernel
theorem dX1_fill_8 : decode cX1_fill 8 = .ok (.if_icmp .le 5, 3) := by decide +kernel
theorem dX1_fill_11 : decode cX1_fill 11 = .ok (.iconst (-1), 1) := by decide +kernel
theorem dX1_fill_12 : decode cX1_fill 12 = .ok (.ireturn, 1) := by decide +kernel
theorem dX1_fill_13 : decode cX1_fill 13 = .ok (.iconst 0, 1) := by decide +kernel
theorem dX1_fill_14 : decode cX1_fill 14 = .ok (.istore_n 3, 1) := by decide +kernel
theorem dX1_fill_15 : decode cX1_fill 15 = .ok (.iload_n 3, 1) := by decide +kernel
theorem dX1_fill_16 : decode cX1_fill 16 = .ok (.iload_n 1, 1) := by decide +kernel
theorem dX1_fill_17 : decode cX1_fill 17 = .ok (.if_icmp .ge 21, 3) := by decide +kernel
theorem dX1_fill_20 : decode cX1_fill 20 = .ok (.aload_n 0, 1) := by decide +kernel
theorem dX1_fill_21 : decode cX1_fill 21 = .ok (.getfield 23, 3) := by decide +kernel
theorem dX1_fill_24 : decode cX1_fill 24 = .ok (.iload_n 2, 1) := by decide +kernel
theorem dX1_fill_25 : decode cX1_fill 25 = .ok (.iconst 3, 1) := by decide +kernel
theorem dX1_fill_26 : decode cX1_fill 26 = .ok (.iload_n 3, 1) := by decide +kernel
theorem dX1_fill_27 : decode cX1_fill 27 = .ok (.imul, 1) := by decide +kernel
theorem dX1_fill_28 : decode cX1_fill 28 = .ok (.iadd, 1) := by decide +kernel
theorem dX1_fill_29 : decode cX1_fill 29 = .ok (.invokevirtual 39, 3) := by decide +kernel
theorem dX1_fill_32 : decode cX1_fill 32 = .ok (.iinc 3 1, 3) := by decide +kernel
theorem dX1_fill_35 : decode cX1_fill 35 = .ok (.goto (-20), 3) := by decide +kernel
theorem dX1_fill_38 : decode cX1_fill 38 = .ok (.aload_n 0, 1) := by decide +kernel
theorem dX1_fill_39 : decode cX1_fill 39 = .ok (.getfield 23, 3) := by decide +kernel
theorem dX1_fill_42 : decode cX1_fill 42 = .ok (.getfield 43, 3) := by decide +kernel
theorem dX1_fill_45 : decode cX1_fill 45 = .ok (.ireturn, 1) := by decide +kernel
theorem dX1_key_0 : decode cX1_key 0 = .ok (.aload_n 0, 1) := by decide +kernel
theorem dX1_key_1 : decode cX1_key 1 = .ok (.getfield 13, 3) := by decide +kernel
theorem dX1_key_4 : decode cX1_key 4 = .ok (.istore_n 1, 1) := by decide +kernel
theorem dX1_key_5 : decode cX1_key 5 = .ok (.aload_n 0, 1) := by decide +kernel
theorem dX1_key_6 : decode cX1_key 6 = .ok (.iconst 0, 1) := by decide +kernel
theorem dX1_key_7 : decode cX1_key 7 = .ok (.putfield 13, 3) := by decide +kernel
theorem dX1_key_10 : decode cX1_key 10 = .ok (.iload_n 1, 1) := by decide +kernel
theorem dX1_key_11 : decode cX1_key 11 = .ok (.bipush 16, 2) := by decide +kernel
theorem dX1_key_13 : decode cX1_key 13 = .ok (.if_icmp .le 5, 3) := by decide +kernel
theorem dX1_key_16 : decode cX1_key 16 = .ok (.iconst (-1), 1) := by decide +kernel
theorem dX1_key_17 : decode cX1_key 17 = .ok (.ireturn, 1) := by decide +kernel
theorem dX1_key_18 : decode cX1_key 18 = .ok (.iconst 0, 1) := by decide +kernel
theorem dX1_key_19 : decode cX1_key 19 = .ok (.istore_n 2, 1) := by decide +kernel
theorem dX1_key_20 : decode cX1_key 20 = .ok (.iload_n 2, 1) := by decide +kernel
theorem dX1_key_21 : decode cX1_key 21 = .ok (.bipush 16, 2) := by decide +kernel
theorem dX1_key_23 : decode cX1_key 23 = .ok (.if_icmp .ge 30, 3) := by decide +kernel
theorem dX1_key_26 : decode cX1_key 26 = .ok (.aload_n 0, 1) := by decide +kernel
theorem dX1_key_27 : decode cX1_key 27 = .ok (.getfield 17, 3) := by decide +kernel
theorem dX1_key_30 : decode cX1_key 30 = .ok (.iload_n 2, 1) := by decide +kernel
theorem dX1_key_31 : decode cX1_key 31 = .ok (.iload_n 2, 1) := by decide +kernel
theorem dX1_key_32 : decode cX1_key 32 = .ok (.iload_n 1, 1) := by decide +kernel
theorem dX1_key_33 : decode cX1_key 33 = .ok (.if_icmp .ge 12, 3) := by decide +kernel
theorem dX1_key_36 : decode cX1_key 36 = .ok (.aload_n 0, 1) := by decide +kernel
theorem dX1_key_37 : decode cX1_key 37 = .ok (.getfield 9, 3) := by decide +kernel
theorem dX1_key_40 : decode cX1_key 40 = .ok (.iload_n 2, 1) := by decide +kernel
theorem dX1_key_41 : decode cX1_key 41 = .ok (.baload, 1) := by decide +kernel
theorem dX1_key_42 : decode cX1_key 42 = .ok (.goto 4, 3) := by decide +kernel
theorem dX1_key_45 : decode cX1_key 45 = .ok (.iconst 0, 1) := by decide +kernel
theorem dX1_key_46 : decode cX1_key 46 = .ok (.bastore, 1) := by decide +kernel
theorem dX1_key_47 : decode cX1_key 47 = .ok (.iinc 2 1, 3) := by decide +kernel
theorem dX1_key_50 : decode cX1_key 50 = .ok (.goto (-30), 3) := by decide +kernel
theorem dX1_key_53 : decode cX1_key 53 = .ok (.iload_n 1, 1) := by decide +kernel
theorem dX1_key_54 : decode cX1_key 54 = .ok (.ireturn, 1) := by decide +kernel
set_option maxRecDepth 20000 in
theorem ggX1_sum_X0_take : GoodIn wsX1_sum wsX0_take := goodIn_r _ [8, 9, 10, 11, 12, 13, 6, 14, 15, 16, 17, 18, 19, 20, 21, 22, 23, 24, 25, 26, 27, 28, 29, 48, 49, 50, 51, 52, 53] (by decide +kernel) (by decide +kernel)
set_option maxRecDepth 20000 in
theorem gX1_sum_X0_take_n39 : GoodIn wsX1_sum (wsX0_take) := ggX1_sum_X0_take
set_option maxRecDepth 20000 in
theorem ggX1_sum_X0_close : GoodIn wsX1_sum wsX0_close := goodIn_r _ [32, 9, 33, 34, 5, 7, 6, 8, 10, 11, 12, 13, 14, 15, 16, 17, 18, 19, 20, 21, 22, 23, 24, 25, 26, 27, 28, 29, 48, 49, 50, 51, 52, 53] (by decide +kernel) (by decide +kernel)
set_option maxRecDepth 20000 in
theorem gX1_sum_X0_close_n46 : GoodIn wsX1_sum (wsX0_close) := ggX1_sum_X0_close
set_option maxRecDepth 20000 in
theorem ggX1_sum_X0_restart : GoodIn wsX1_sum wsX0_restart := goodIn_r _ [37, 9, 38, 15, 39, 16, 40, 17, 41, 18, 48, 49, 50, 51, 52, 53] (by decide +kernel) (by decide +kernel)
set_option maxRecDepth 20000 in
theorem gX1_sum_X0_restart_n61 : GoodIn wsX1_sum (wsX0_restart) := ggX1_sum_X0_restart
theorem dX1_sum_0 : decode cX1_sum 0 = .ok (.aload_n 0, 1) := by decide +kernel
theorem dX1_sum_1 : decode cX1_sum 1 = .ok (.getfield 23, 3) := by decide +kernel
theorem dX1_sum_4 : decode cX1_sum 4 = .ok (.getfield 43, 3) := by decide +kernel
theorem dX1_sum_7 : decode cX1_sum 7 = .ok (.istore_n 2, 1) := by decide +kernel
theorem dX1_sum_8 : decode cX1_sum 8 = .ok (.iload_n 1, 1) := by decide +kernel
theorem dX1_sum_9 : decode cX1_sum 9 = .ok (.ifCond .eq 30, 3) := by decide +kernel
theorem dX1_sum_12 : decode cX1_sum 12 = .ok (.iconst 0, 1) := by decide +kernel
theorem dX1_sum_13 : decode cX1_sum 13 = .ok (.istore_n 3, 1) := by decide +kernel
theorem dX1_sum_14 : decode cX1_sum 14 = .ok (.iload_n 3, 1) := by decide +kernel
theorem dX1_sum_15 : decode cX1_sum 15 = .ok (.bipush 16, 2) := by decide +kernel
theorem dX1_sum_17 : decode cX1_sum 17 = .ok (.if_icmp .ge 22, 3) := by decide +kernel
theorem dX1_sum_20 : decode cX1_sum 20 = .ok (.aload_n 0, 1) := by decide +kernel
theorem dX1_sum_21 : decode cX1_sum 21 = .ok (.getfield 23, 3) := by decide +kernel
theorem dX1_sum_24 : decode cX1_sum 24 = .ok (.aload_n 0, 1) := by decide +kernel
theorem dX1_sum_25 : decode cX1_sum 25 = .ok (.getfield 17, 3) := by decide +kernel
theorem dX1_sum_28 : decode cX1_sum 28 = .ok (.iload_n 3, 1) := by decide +kernel
theorem dX1_sum_29 : decode cX1_sum 29 = .ok (.baload, 1) := by decide +kernel
theorem dX1_sum_30 : decode cX1_sum 30 = .ok (.invokevirtual 39, 3) := by decide +kernel
theorem dX1_sum_33 : decode cX1_sum 33 = .ok (.iinc 3 1, 3) := by decide +kernel
theorem dX1_sum_36 : decode cX1_sum 36 = .ok (.goto (-22), 3) := by decide +kernel
theorem dX1_sum_39 : decode cX1_sum 39 = .ok (.aload_n 0, 1) := by decide +kernel
theorem dX1_sum_40 : decode cX1_sum 40 = .ok (.getfield 23, 3) := by decide +kernel
theorem dX1_sum_43 : decode cX1_sum 43 = .ok (.invokevirtual 46, 3) := by decide +kernel
theorem dX1_sum_46 : decode cX1_sum 46 = .ok (.aload_n 0, 1) := by decide +kernel
theorem dX1_sum_47 : decode cX1_sum 47 = .ok (.getfield 27, 3) := by decide +kernel
theorem dX1_sum_50 : decode cX1_sum 50 = .ok (.iconst 0, 1) := by decide +kernel
theorem dX1_sum_51 : decode cX1_sum 51 = .ok (.aload_n 0, 1) := by decide +kernel
theorem dX1_sum_52 : decode cX1_sum 52 = .ok (.getfield 23, 3) := by decide +kernel
theorem dX1_sum_55 : decode cX1_sum 55 = .ok (.getfield 49, 3) := by decide +kernel
theorem dX1_sum_58 : decode cX1_sum 58 = .ok (.iastore, 1) := by decide +kernel
theorem dX1_sum_59 : decode cX1_sum 59 = .ok (.aload_n 0, 1) := by decide +kernel
theorem dX1_sum_60 : decode cX1_sum 60 = .ok (.getfield 27, 3) := by decide +kernel
theorem dX1_sum_63 : decode cX1_sum 63 = .ok (.iconst 1, 1) := by decide +kernel
theorem dX1_sum_64 : decode cX1_sum 64 = .ok (.aload_n 0, 1) := by decide +kernel
theorem dX1_sum_65 : decode cX1_sum 65 = .ok (.getfield 23, 3) := by decide +kernel
theorem dX1_sum_68 : decode cX1_sum 68 = .ok (.getfield 52, 3) := by decide +kernel
theorem dX1_sum_71 : decode cX1_sum 71 = .ok (.iastore, 1) := by decide +kernel
theorem dX1_sum_72 : decode cX1_sum 72 = .ok (.aload_n 0, 1) := by decide +kernel
theorem dX1_sum_73 : decode cX1_sum 73 = .ok (.getfield 27, 3) := by decide +kernel
theorem dX1_sum_76 : decode cX1_sum 76 = .ok (.iconst 2, 1) := by decide +kernel
theorem dX1_sum_77 : decode cX1_sum 77 = .ok (.aload_n 0, 1) := by decide +kernel
theorem dX1_sum_78 : decode cX1_sum 78 = .ok (.getfield 23, 3) := by decide +kernel
theorem dX1_sum_81 : decode cX1_sum 81 = .ok (.getfield 55, 3) := by decide +kernel
theorem dX1_sum_84 : decode cX1_sum 84 = .ok (.iastore, 1) := by decide +kernel
theorem dX1_sum_85 : decode cX1_sum 85 = .ok (.aload_n 0, 1) := by decide +kernel
theorem dX1_sum_86 : decode cX1_sum 86 = .ok (.getfield 27, 3) := by decide +kernel
theorem dX1_sum_89 : decode cX1_sum 89 = .ok (.iconst 3, 1) := by decide +kernel
theorem dX1_sum_90 : decode cX1_sum 90 = .ok (.aload_n 0, 1) := by decide +kernel
theorem dX1_sum_91 : decode cX1_sum 91 = .ok (.getfield 23, 3) := by decide +kernel
theorem dX1_sum_94 : decode cX1_sum 94 = .ok (.getfield 58, 3) := by decide +kernel
theorem dX1_sum_97 : decode cX1_sum 97 = .ok (.iastore, 1) := by decide +kernel
theorem dX1_sum_98 : decode cX1_sum 98 = .ok (.aload_n 0, 1) := by decide +kernel
theorem dX1_sum_99 : decode cX1_sum 99 = .ok (.iconst 1, 1) := by decide +kernel
theorem dX1_sum_100 : decode cX1_sum 100 = .ok (.putfield 31, 3) := by decide +kernel
theorem dX1_sum_103 : decode cX1_sum 103 = .ok (.aload_n 0, 1) := by decide +kernel
theorem dX1_sum_104 : decode cX1_sum 104 = .ok (.getfield 23, 3) := by decide +kernel
theorem dX1_sum_107 : decode cX1_sum 107 = .ok (.invokevirtual 61, 3) := by decide +kernel
theorem dX1_sum_110 : decode cX1_sum 110 = .ok (.iload_n 2, 1) := by decide +kernel
theorem dX1_sum_111 : decode cX1_sum 111 = .ok (.ireturn, 1) := by decide +kernel
theorem dX1_sumAt_0 : decode cX1_sumAt 0 = .ok (.aload_n 0, 1) := by decide +kernel
theorem dX1_sumAt_1 : decode cX1_sumAt 1 = .ok (.getfield 31, 3) := by decide +kernel
theorem dX1_sumAt_4 : decode cX1_sumAt 4 = .ok (.ifCond .eq 13, 3) := by decide +kernel
theorem dX1_sumAt_7 : decode cX1_sumAt 7 = .ok (.iload_n 1, 1) := by decide +kernel
theorem dX1_sumAt_8 : decode cX1_sumAt 8 = .ok (.ifCond .lt 9, 3) := by decide +kernel
theorem dX1_sumAt_11 : decode cX1_sumAt 11 = .ok (.iload_n 1, 1) := by decide +kernel
theorem dX1_sumAt_12 : decode cX1_sumAt 12 = .ok (.bipush 16, 2) := by decide +kernel
theorem dX1_sumAt_14 : decode cX1_sumAt 14 = .ok (.if_icmp .lt 5, 3) := by decide +kernel
theorem dX1_sumAt_17 : decode cX1_sumAt 17 = .ok (.iconst (-1), 1) := by decide +kernel
theorem dX1_sumAt_18 : decode cX1_sumAt 18 = .ok (.ireturn, 1) := by decide +kernel
theorem dX1_sumAt_19 : decode cX1_sumAt 19 = .ok (.aload_n 0, 1) := by decide +kernel
theorem dX1_sumAt_20 : decode cX1_sumAt 20 = .ok (.getfield 27, 3) := by decide +kernel
theorem dX1_sumAt_23 : decode cX1_sumAt 23 = .ok (.iload_n 1, 1) := by decide +kernel
theorem dX1_sumAt_24 : decode cX1_sumAt 24 = .ok (.iconst 2, 1) := by decide +kernel
theorem dX1_sumAt_25 : decode cX1_sumAt 25 = .ok (.ishr, 1) := by decide +kernel
theorem dX1_sumAt_26 : decode cX1_sumAt 26 = .ok (.iaload, 1) := by decide +kernel
theorem dX1_sumAt_27 : decode cX1_sumAt 27 = .ok (.bipush 8, 2) := by decide +kernel
theorem dX1_sumAt_29 : decode cX1_sumAt 29 = .ok (.iload_n 1, 1) := by decide +kernel
theorem dX1_sumAt_30 : decode cX1_sumAt 30 = .ok (.iconst 3, 1) := by decide +kernel
theorem dX1_sumAt_31 : decode cX1_sumAt 31 = .ok (.iand, 1) := by decide +kernel
theorem dX1_sumAt_32 : decode cX1_sumAt 32 = .ok (.imul, 1) := by decide +kernel
theorem dX1_sumAt_33 : decode cX1_sumAt 33 = .ok (.iushr, 1) := by decide +kernel
theorem dX1_sumAt_34 : decode cX1_sumAt 34 = .ok (.sipush 255, 3) := by decide +kernel
theorem dX1_sumAt_37 : decode cX1_sumAt 37 = .ok (.iand, 1) := by decide +kernel
theorem dX1_sumAt_38 : decode cX1_sumAt 38 = .ok (.ireturn, 1) := by decide +kernel
theorem dX1_writeNumber_0 : decode cX1_writeNumber 0 = .ok (.aload_n 0, 1) := by decide +kernel
theorem dX1_writeNumber_1 : decode cX1_writeNumber 1 = .ok (.getfield 9, 3) := by decide +kernel
theorem dX1_writeNumber_4 : decode cX1_writeNumber 4 = .ok (.iload_n 1, 1) := by decide +kernel
theorem dX1_writeNumber_5 : decode cX1_writeNumber 5 = .ok (.iload_n 2, 1) := by decide +kernel
theorem dX1_writeNumber_6 : decode cX1_writeNumber 6 = .ok (.bipush 24, 2) := by decide +kernel
theorem dX1_writeNumber_8 : decode cX1_writeNumber 8 = .ok (.iushr, 1) := by decide +kernel
theorem dX1_writeNumber_9 : decode cX1_writeNumber 9 = .ok (.i2b, 1) := by decide +kernel
theorem dX1_writeNumber_10 : decode cX1_writeNumber 10 = .ok (.bastore, 1) := by decide +kernel
theorem dX1_writeNumber_11 : decode cX1_writeNumber 11 = .ok (.aload_n 0, 1) := by decide +kernel
theorem dX1_writeNumber_12 : decode cX1_writeNumber 12 = .ok (.getfield 9, 3) := by decide +kernel
theorem dX1_writeNumber_15 : decode cX1_writeNumber 15 = .ok (.iload_n 1, 1) := by decide +kernel
theorem dX1_writeNumber_16 : decode cX1_writeNumber 16 = .ok (.iconst 1, 1) := by decide +kernel
theorem dX1_writeNumber_17 : decode cX1_writeNumber 17 = .ok (.iadd, 1) := by decide +kernel
theorem dX1_writeNumber_18 : decode cX1_writeNumber 18 = .ok (.iload_n 2, 1) := by decide +kernel
theorem dX1_writeNumber_19 : decode cX1_writeNumber 19 = .ok (.bipush 16, 2) := by decide +kernel
theorem dX1_writeNumber_21 : decode cX1_writeNumber 21 = .ok (.iushr, 1) := by decide +kernel
theorem dX1_writeNumber_22 : decode cX1_writeNumber 22 = .ok (.i2b, 1) := by decide +kernel
theorem dX1_writeNumber_23 : decode cX1_writeNumber 23 = .ok (.bastore, 1) := by decide +kernel
theorem dX1_writeNumber_24 : decode cX1_writeNumber 24 = .ok (.aload_n 0, 1) := by decide +kernel
theorem dX1_writeNumber_25 : decode cX1_writeNumber 25 = .ok (.getfield 9, 3) := by decide +kernel
theorem dX1_writeNumber_28 : decode cX1_writeNumber 28 = .ok (.iload_n 1, 1) := by decide +kernel
theorem dX1_writeNumber_29 : decode cX1_writeNumber 29 = .ok (.iconst 2, 1) := by decide +kernel
theorem dX1_writeNumber_30 : decode cX1_writeNumber 30 = .ok (.iadd, 1) := by decide +kernel
theorem dX1_writeNumber_31 : decode cX1_writeNumber 31 = .ok (.iload_n 2, 1) := by decide +kernel
theorem dX1_writeNumber_32 : decode cX1_writeNumber 32 = .ok (.bipush 8, 2) := by decide +kernel
theorem dX1_writeNumber_34 : decode cX1_writeNumber 34 = .ok (.iushr, 1) := by decide +kernel
theorem dX1_writeNumber_35 : decode cX1_writeNumber 35 = .ok (.i2b, 1) := by decide +kernel
theorem dX1_writeNumber_36 : decode cX1_writeNumber 36 = .ok (.bastore, 1) := by decide +kernel
theorem dX1_writeNumber_37 : decode cX1_writeNumber 37 = .ok (.aload_n 0, 1) := by decide +kernel
theorem dX1_writeNumber_38 : decode cX1_writeNumber 38 = .ok (.getfield 9, 3) := by decide +kernel
theorem dX1_writeNumber_41 : decode cX1_writeNumber 41 = .ok (.iload_n 1, 1) := by decide +kernel
theorem dX1_writeNumber_42 : decode cX1_writeNumber 42 = .ok (.iconst 3, 1) := by decide +kernel
theorem dX1_writeNumber_43 : decode cX1_writeNumber 43 = .ok (.iadd, 1) := by decide +kernel
theorem dX1_writeNumber_44 : decode cX1_writeNumber 44 = .ok (.iload_n 2, 1) := by decide +kernel
theorem dX1_writeNumber_45 : decode cX1_writeNumber 45 = .ok (.i2b, 1) := by decide +kernel
theorem dX1_writeNumber_46 : decode cX1_writeNumber 46 = .ok (.bastore, 1) := by decide +kernel
theorem dX1_writeNumber_47 : decode cX1_writeNumber 47 = .ok (.return_, 1) := by decide +kernel
