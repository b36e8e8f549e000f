def RX2 : String := "KeySumsModel"
def TX2 : u_T := fun k => match k with
  | 0 => ("KeySumsModel", "constant", "[I", true)
  | 1 => ("KeySumsModel", "turns", "[I", true)
  | 2 => ("KeySumsModel", "begin", "[I", true)
  | 3 => ("KeySumsModel", "times", "[I", true)
  | 4 => ("KeySumsModel", "more", "[I", true)
  | 5 => ("KeySumsModel", "tape", "[I", true)
  | 6 => ("KeySumsModel", "size", "I", false)
  | 7 => ("KeySumsModel", "key", "[I", true)
  | 8 => ("KeySumsModel", "block", "[I", true)
  | 9 => ("KeySumsModel", "four", "[I", true)
  | 10 => ("KeySumsModel", "now", "[I", true)
  | 11 => ("KeySumsModel", "many", "I", false)
  | 12 => ("KeySumsModel", "result", "[I", true)
  | _ => ("KeySumsModel", "isSummed", "Z", false)
def tyX2 : Nat → FieldType := fun k => match k with
  | 0 => .array .int
  | 1 => .array .int
  | 2 => .array .int
  | 3 => .array .int
  | 4 => .array .int
  | 5 => .array .int
  | 6 => .int
  | 7 => .array .int
  | 8 => .array .int
  | 9 => .array .int
  | 10 => .array .int
  | 11 => .int
  | 12 => .array .int
  | _ => .boolean
abbrev wsX20 : List Cond := u_ws RX2 TX2 14
theorem nmX2 : ∀ a, a < 14 → ∀ b, b < 14 → a ≠ b → (TX2 a).2.1 ≠ (TX2 b).2.1 := by decide +kernel
theorem tyX2_ok : ∀ k, k < 14 → parseFieldDescriptor (TX2 k).2.2.1 = some (tyX2 k) := by decide +kernel
abbrev cX2_init : ByteArray := prog_4_method_1_code
def yX2_init : MethodName := ⟨RX2, "<init>", "()V"⟩
abbrev cX2_anew : ByteArray := prog_4_method_3_code
def yX2_anew : MethodName := ⟨RX2, "anew", "()V"⟩
abbrev cX2_feed : ByteArray := prog_4_method_5_code
def yX2_feed : MethodName := ⟨RX2, "feed", "(IIIII)Z"⟩
abbrev cX2_lay : ByteArray := prog_4_method_4_code
def yX2_lay : MethodName := ⟨RX2, "lay", "(I)V"⟩
abbrev cX2_end : ByteArray := prog_4_method_6_code
def yX2_end : MethodName := ⟨RX2, "end", "(I)Z"⟩
abbrev cX2_add : ByteArray := prog_4_method_11_code
def yX2_add : MethodName := ⟨RX2, "add", "()I"⟩
abbrev cX2_come : ByteArray := prog_4_method_10_code
def yX2_come : MethodName := ⟨RX2, "come", "(I)V"⟩
abbrev cX2_step : ByteArray := prog_4_method_9_code
def yX2_step : MethodName := ⟨RX2, "step", "(I)V"⟩
abbrev cX2_mixed : ByteArray := prog_4_method_8_code
def yX2_mixed : MethodName := ⟨RX2, "mixed", "(I)I"⟩
abbrev cX2_word : ByteArray := prog_4_method_7_code
def yX2_word : MethodName := ⟨RX2, "word", "(I)I"⟩
abbrev cX2_fill : ByteArray := prog_4_method_12_code
def yX2_fill : MethodName := ⟨RX2, "fill", "(II)I"⟩
abbrev cX2_key : ByteArray := prog_4_method_13_code
def yX2_key : MethodName := ⟨RX2, "key", "()I"⟩
abbrev cX2_sum : ByteArray := prog_4_method_14_code
def yX2_sum : MethodName := ⟨RX2, "sum", "(Z)I"⟩
abbrev cX2_sumAt : ByteArray := prog_4_method_15_code
def yX2_sumAt : MethodName := ⟨RX2, "sumAt", "(I)I"⟩
def wsX2_anew_r1 : List Cond := [Cond.fieldLink RX2 114 "KeySumsModel" "many" "I", Cond.fieldLink RX2 102 "KeySumsModel" "four" "[I", Cond.fieldLink RX2 84 "KeySumsModel" "begin" "[I"]
def wsX2_anew : List Cond := .code yX2_anew cX2_anew 2 none :: ((wsX2_anew_r1) ++ wsX20)
def wsX2_lay_r1 : List Cond := [Cond.fieldLink RX2 93 "KeySumsModel" "tape" "[I", Cond.fieldLink RX2 118 "KeySumsModel" "size" "I"]
def wsX2_lay : List Cond := .code yX2_lay cX2_lay 3 none :: ((wsX2_lay_r1) ++ wsX20)
def wsX2_end_r1 : List Cond := [Cond.fieldLink RX2 118 "KeySumsModel" "size" "I"]
def wsX2_end : List Cond := .code yX2_end cX2_end 2 (some .boolean) :: ((wsX2_end_r1) ++ wsX20)
def wsX2_word_r1 : List Cond := [Cond.fieldLink RX2 99 "KeySumsModel" "block" "[I"]
def wsX2_word : List Cond := .code yX2_word cX2_word 2 (some .int) :: ((wsX2_word_r1) ++ wsX20)
def wsX2_mixed_r1 : List Cond := [Cond.fieldLink RX2 105 "KeySumsModel" "now" "[I"]
def wsX2_mixed : List Cond := .code yX2_mixed cX2_mixed 5 (some .int) :: ((wsX2_mixed_r1) ++ wsX20)
def wsX2_step_r1 : List Cond := [Cond.fieldLink RX2 77 "KeySumsModel" "turns" "[I", Cond.fieldLink RX2 105 "KeySumsModel" "now" "[I", Cond.methodLink RX2 125 yX2_mixed, Cond.instanceMethod yX2_mixed, Cond.selects RX2 yX2_mixed yX2_mixed, Cond.initialized RX2, Cond.fieldLink RX2 71 "KeySumsModel" "constant" "[I", Cond.fieldLink RX2 87 "KeySumsModel" "times" "[I", Cond.fieldLink RX2 90 "KeySumsModel" "more" "[I", Cond.methodLink RX2 129 yX2_word, Cond.instanceMethod yX2_word, Cond.selects RX2 yX2_word yX2_word, Cond.code yX2_mixed cX2_mixed 5 (some .int), Cond.code yX2_word cX2_word 2 (some .int), Cond.fieldLink RX2 99 "KeySumsModel" "block" "[I"]
def wsX2_step : List Cond := .code yX2_step cX2_step 5 none :: ((wsX2_step_r1) ++ wsX20)
def wsX2_come_r1 : List Cond := [Cond.fieldLink RX2 99 "KeySumsModel" "block" "[I", Cond.fieldLink RX2 114 "KeySumsModel" "many" "I", Cond.fieldLink RX2 105 "KeySumsModel" "now" "[I", Cond.fieldLink RX2 102 "KeySumsModel" "four" "[I", Cond.methodLink RX2 132 yX2_step, Cond.instanceMethod yX2_step, Cond.selects RX2 yX2_step yX2_step, Cond.initialized RX2, Cond.code yX2_step cX2_step 5 none, Cond.fieldLink RX2 77 "KeySumsModel" "turns" "[I", Cond.methodLink RX2 125 yX2_mixed, Cond.instanceMethod yX2_mixed, Cond.selects RX2 yX2_mixed yX2_mixed, Cond.fieldLink RX2 71 "KeySumsModel" "constant" "[I", Cond.fieldLink RX2 87 "KeySumsModel" "times" "[I", Cond.fieldLink RX2 90 "KeySumsModel" "more" "[I", Cond.methodLink RX2 129 yX2_word, Cond.instanceMethod yX2_word, Cond.selects RX2 yX2_word yX2_word, Cond.code yX2_mixed cX2_mixed 5 (some .int), Cond.code yX2_word cX2_word 2 (some .int)]
def wsX2_come : List Cond := .code yX2_come cX2_come 3 none :: ((wsX2_come_r1) ++ wsX20)
def wsX2_feed_r1 : List Cond := [Cond.fieldLink RX2 118 "KeySumsModel" "size" "I", Cond.methodLink RX2 121 yX2_lay, Cond.instanceMethod yX2_lay, Cond.selects RX2 yX2_lay yX2_lay, Cond.initialized RX2, Cond.code yX2_lay cX2_lay 3 none, Cond.fieldLink RX2 93 "KeySumsModel" "tape" "[I"]
def wsX2_feed : List Cond := .code yX2_feed cX2_feed 6 (some .boolean) :: ((wsX2_feed_r1) ++ wsX20)
def wsX2_add_r1 : List Cond := [Cond.fieldLink RX2 118 "KeySumsModel" "size" "I", Cond.fieldLink RX2 93 "KeySumsModel" "tape" "[I", Cond.methodLink RX2 135 yX2_come, Cond.instanceMethod yX2_come, Cond.selects RX2 yX2_come yX2_come, Cond.initialized RX2, Cond.fieldLink RX2 114 "KeySumsModel" "many" "I", Cond.code yX2_come cX2_come 3 none, Cond.fieldLink RX2 99 "KeySumsModel" "block" "[I", Cond.fieldLink RX2 105 "KeySumsModel" "now" "[I", Cond.fieldLink RX2 102 "KeySumsModel" "four" "[I", Cond.methodLink RX2 132 yX2_step, Cond.instanceMethod yX2_step, Cond.selects RX2 yX2_step yX2_step, Cond.code yX2_step cX2_step 5 none, Cond.fieldLink RX2 77 "KeySumsModel" "turns" "[I", Cond.methodLink RX2 125 yX2_mixed, Cond.instanceMethod yX2_mixed, Cond.selects RX2 yX2_mixed yX2_mixed, Cond.fieldLink RX2 71 "KeySumsModel" "constant" "[I", Cond.fieldLink RX2 87 "KeySumsModel" "times" "[I", Cond.fieldLink RX2 90 "KeySumsModel" "more" "[I", Cond.methodLink RX2 129 yX2_word, Cond.instanceMethod yX2_word]
def wsX2_add_r2 : List Cond := [Cond.selects RX2 yX2_word yX2_word, Cond.code yX2_mixed cX2_mixed 5 (some .int), Cond.code yX2_word cX2_word 2 (some .int)]
def wsX2_add : List Cond := .code yX2_add cX2_add 2 (some .int) :: ((wsX2_add_r1 ++ wsX2_add_r2) ++ wsX20)
def wsX2_fill_r1 : List Cond := [Cond.methodLink RX2 135 yX2_come, Cond.instanceMethod yX2_come, Cond.selects RX2 yX2_come yX2_come, Cond.initialized RX2, Cond.fieldLink RX2 114 "KeySumsModel" "many" "I", Cond.code yX2_come cX2_come 3 none, Cond.fieldLink RX2 99 "KeySumsModel" "block" "[I", Cond.fieldLink RX2 105 "KeySumsModel" "now" "[I", Cond.fieldLink RX2 102 "KeySumsModel" "four" "[I", Cond.methodLink RX2 132 yX2_step, Cond.instanceMethod yX2_step, Cond.selects RX2 yX2_step yX2_step, Cond.code yX2_step cX2_step 5 none, Cond.fieldLink RX2 77 "KeySumsModel" "turns" "[I", Cond.methodLink RX2 125 yX2_mixed, Cond.instanceMethod yX2_mixed, Cond.selects RX2 yX2_mixed yX2_mixed, Cond.fieldLink RX2 71 "KeySumsModel" "constant" "[I", Cond.fieldLink RX2 87 "KeySumsModel" "times" "[I", Cond.fieldLink RX2 90 "KeySumsModel" "more" "[I", Cond.methodLink RX2 129 yX2_word, Cond.instanceMethod yX2_word, Cond.selects RX2 yX2_word yX2_word, Cond.code yX2_mixed cX2_mixed 5 (some .int)]
def wsX2_fill_r2 : List Cond := [Cond.code yX2_word cX2_word 2 (some .int)]
def wsX2_fill : List Cond := .code yX2_fill cX2_fill 4 (some .int) :: ((wsX2_fill_r1 ++ wsX2_fill_r2) ++ wsX20)
def wsX2_key_r1 : List Cond := [Cond.fieldLink RX2 118 "KeySumsModel" "size" "I", Cond.fieldLink RX2 96 "KeySumsModel" "key" "[I", Cond.fieldLink RX2 93 "KeySumsModel" "tape" "[I"]
def wsX2_key : List Cond := .code yX2_key cX2_key 3 (some .int) :: ((wsX2_key_r1) ++ wsX20)
def wsX2_sum_r1 : List Cond := [Cond.fieldLink RX2 114 "KeySumsModel" "many" "I", Cond.fieldLink RX2 96 "KeySumsModel" "key" "[I", Cond.methodLink RX2 135 yX2_come, Cond.instanceMethod yX2_come, Cond.selects RX2 yX2_come yX2_come, Cond.initialized RX2, Cond.constantLong RX2 138 (8), Cond.fieldLink RX2 108 "KeySumsModel" "result" "[I", Cond.fieldLink RX2 102 "KeySumsModel" "four" "[I", Cond.fieldLink RX2 140 "KeySumsModel" "isSummed" "Z", Cond.methodLink RX2 111 yX2_anew, Cond.instanceMethod yX2_anew, Cond.selects RX2 yX2_anew yX2_anew, Cond.code yX2_come cX2_come 3 none, Cond.fieldLink RX2 99 "KeySumsModel" "block" "[I", Cond.fieldLink RX2 105 "KeySumsModel" "now" "[I", Cond.methodLink RX2 132 yX2_step, Cond.instanceMethod yX2_step, Cond.selects RX2 yX2_step yX2_step, Cond.code yX2_step cX2_step 5 none, Cond.fieldLink RX2 77 "KeySumsModel" "turns" "[I", Cond.methodLink RX2 125 yX2_mixed, Cond.instanceMethod yX2_mixed, Cond.selects RX2 yX2_mixed yX2_mixed]
def wsX2_sum_r2 : List Cond := [Cond.fieldLink RX2 71 "KeySumsModel" "constant" "[I", Cond.fieldLink RX2 87 "KeySumsModel" "times" "[I", Cond.fieldLink RX2 90 "KeySumsModel" "more" "[I", Cond.methodLink RX2 129 yX2_word, Cond.instanceMethod yX2_word, Cond.selects RX2 yX2_word yX2_word, Cond.code yX2_mixed cX2_mixed 5 (some .int), Cond.code yX2_word cX2_word 2 (some .int), Cond.code yX2_anew cX2_anew 2 none, Cond.fieldLink RX2 84 "KeySumsModel" "begin" "[I"]
def wsX2_sum : List Cond := .code yX2_sum cX2_sum 6 (some .int) :: ((wsX2_sum_r1 ++ wsX2_sum_r2) ++ wsX20)
def wsX2_sumAt_r1 : List Cond := [Cond.fieldLink RX2 140 "KeySumsModel" "isSummed" "Z", Cond.fieldLink RX2 108 "KeySumsModel" "result" "[I"]
def wsX2_sumAt : List Cond := .code yX2_sumAt cX2_sumAt 2 (some .int) :: ((wsX2_sumAt_r1) ++ wsX20)
def wsX2_init_r1 : List Cond := [Cond.methodLink RX2 1 objectInit, Cond.instanceMethod objectInit, Cond.code objectInit ⟨#[0xb1]⟩ 1 none, Cond.arrayClass .int, Cond.constant RX2 7 (-680876936), Cond.constant RX2 8 (-389564586), Cond.constant RX2 9 (606105819), Cond.constant RX2 10 (-1044525330), Cond.constant RX2 11 (-176418897), Cond.constant RX2 12 (1200080426), Cond.constant RX2 13 (-1473231341), Cond.constant RX2 14 (-45705983), Cond.constant RX2 15 (1770035416), Cond.constant RX2 16 (-1958414417), Cond.constant RX2 17 (-42063), Cond.constant RX2 18 (-1990404162), Cond.constant RX2 19 (1804603682), Cond.constant RX2 20 (-40341101), Cond.constant RX2 21 (-1502002290), Cond.constant RX2 22 (1236535329), Cond.constant RX2 23 (-165796510), Cond.constant RX2 24 (-1069501632), Cond.constant RX2 25 (643717713), Cond.constant RX2 26 (-373897302)]
def wsX2_init_r2 : List Cond := [Cond.constant RX2 27 (-701558691), Cond.constant RX2 28 (38016083), Cond.constant RX2 29 (-660478335), Cond.constant RX2 30 (-405537848), Cond.constant RX2 31 (568446438), Cond.constant RX2 32 (-1019803690), Cond.constant RX2 33 (-187363961), Cond.constant RX2 34 (1163531501), Cond.constant RX2 35 (-1444681467), Cond.constant RX2 36 (-51403784), Cond.constant RX2 37 (1735328473), Cond.constant RX2 38 (-1926607734), Cond.constant RX2 39 (-378558), Cond.constant RX2 40 (-2022574463), Cond.constant RX2 41 (1839030562), Cond.constant RX2 42 (-35309556), Cond.constant RX2 43 (-1530992060), Cond.constant RX2 44 (1272893353), Cond.constant RX2 45 (-155497632), Cond.constant RX2 46 (-1094730640), Cond.constant RX2 47 (681279174), Cond.constant RX2 48 (-358537222), Cond.constant RX2 49 (-722521979), Cond.constant RX2 50 (76029189)]
def wsX2_init_r3 : List Cond := [Cond.constant RX2 51 (-640364487), Cond.constant RX2 52 (-421815835), Cond.constant RX2 53 (530742520), Cond.constant RX2 54 (-995338651), Cond.constant RX2 55 (-198630844), Cond.constant RX2 56 (1126891415), Cond.constant RX2 57 (-1416354905), Cond.constant RX2 58 (-57434055), Cond.constant RX2 59 (1700485571), Cond.constant RX2 60 (-1894986606), Cond.constant RX2 61 (-1051523), Cond.constant RX2 62 (-2054922799), Cond.constant RX2 63 (1873313359), Cond.constant RX2 64 (-30611744), Cond.constant RX2 65 (-1560198380), Cond.constant RX2 66 (1309151649), Cond.constant RX2 67 (-145523070), Cond.constant RX2 68 (-1120210379), Cond.constant RX2 69 (718787259), Cond.constant RX2 70 (-343485551), Cond.fieldLink RX2 71 "KeySumsModel" "constant" "[I", Cond.fieldLink RX2 77 "KeySumsModel" "turns" "[I", Cond.constant RX2 80 (1732584193), Cond.constant RX2 81 (-271733879)]
def wsX2_init_r4 : List Cond := [Cond.constant RX2 82 (-1732584194), Cond.constant RX2 83 (271733878), Cond.fieldLink RX2 84 "KeySumsModel" "begin" "[I", Cond.fieldLink RX2 87 "KeySumsModel" "times" "[I", Cond.fieldLink RX2 90 "KeySumsModel" "more" "[I", Cond.fieldLink RX2 93 "KeySumsModel" "tape" "[I", Cond.fieldLink RX2 96 "KeySumsModel" "key" "[I", Cond.fieldLink RX2 99 "KeySumsModel" "block" "[I", Cond.fieldLink RX2 102 "KeySumsModel" "four" "[I", Cond.fieldLink RX2 105 "KeySumsModel" "now" "[I", Cond.fieldLink RX2 108 "KeySumsModel" "result" "[I", Cond.methodLink RX2 111 yX2_anew, Cond.instanceMethod yX2_anew, Cond.selects RX2 yX2_anew yX2_anew, Cond.initialized RX2, Cond.code yX2_anew cX2_anew 2 none, Cond.fieldLink RX2 114 "KeySumsModel" "many" "I"]
def wsX2_init : List Cond := .code yX2_init cX2_init 1 none :: ((wsX2_init_r1 ++ wsX2_init_r2 ++ wsX2_init_r3 ++ wsX2_init_r4) ++ wsX20)
set_option maxRecDepth 20000 in
theorem ggX2_step_X2_mixed : GoodIn wsX2_step wsX2_mixed := goodIn_r _ [13, 2, 16, 17, 18, 19, 20, 21, 22, 23, 24, 25, 26, 27, 28, 29] (by decide +kernel) (by decide +kernel)
set_option maxRecDepth 20000 in
theorem gX2_step_X2_mixed : GoodIn wsX2_step (wsV RX2 125 RX2 yX2_mixed wsX2_mixed) := goodIn_app (goodIn_r _ [3, 4, 5, 6] (by decide +kernel) (by decide +kernel)) ggX2_step_X2_mixed
set_option maxRecDepth 20000 in
theorem ggX2_step_X2_word : GoodIn wsX2_step wsX2_word := goodIn_r _ [14, 15, 16, 17, 18, 19, 20, 21, 22, 23, 24, 25, 26, 27, 28, 29] (by decide +kernel) (by decide +kernel)
set_option maxRecDepth 20000 in
theorem gX2_step_X2_word : GoodIn wsX2_step (wsV RX2 129 RX2 yX2_word wsX2_word) := goodIn_app (goodIn_r _ [10, 11, 12, 6] (by decide +kernel) (by decide +kernel)) ggX2_step_X2_word
set_option maxRecDepth 20000 in
theorem ggX2_come_X2_step : GoodIn wsX2_come wsX2_step := goodIn_r _ [9, 10, 3, 11, 12, 13, 8, 14, 15, 16, 17, 18, 19, 20, 21, 1, 22, 23, 24, 25, 26, 27, 28, 29, 30, 31, 32, 33, 34, 35] (by decide +kernel) (by decide +kernel)
set_option maxRecDepth 20000 in
theorem gX2_come_X2_step : GoodIn wsX2_come (wsV RX2 132 RX2 yX2_step wsX2_step) := goodIn_app (goodIn_r _ [5, 6, 7, 8] (by decide +kernel) (by decide +kernel)) ggX2_come_X2_step
set_option maxRecDepth 20000 in
theorem ggX2_feed_X2_lay : GoodIn wsX2_feed wsX2_lay := goodIn_r _ [6, 7, 1, 8, 9, 10, 11, 12, 13, 14, 15, 16, 17, 18, 19, 20, 21] (by decide +kernel) (by decide +kernel)
set_option maxRecDepth 20000 in
theorem gX2_feed_X2_lay : GoodIn wsX2_feed (wsV RX2 121 RX2 yX2_lay wsX2_lay) := goodIn_app (goodIn_r _ [2, 3, 4, 5] (by decide +kernel) (by decide +kernel)) ggX2_feed_X2_lay
set_option maxRecDepth 20000 in
theorem ggX2_add_X2_come : GoodIn wsX2_add wsX2_come := goodIn_r _ [8, 9, 7, 10, 11, 12, 13, 14, 6, 15, 16, 17, 18, 19, 20, 21, 22, 23, 24, 25, 26, 27, 28, 29, 30, 31, 32, 33, 34, 35, 36, 37, 38, 39, 40, 41] (by decide +kernel) (by decide +kernel)
set_option maxRecDepth 20000 in
theorem gX2_add_X2_come : GoodIn wsX2_add (wsV RX2 135 RX2 yX2_come wsX2_come) := goodIn_app (goodIn_r _ [3, 4, 5, 6] (by decide +kernel) (by decide +kernel)) ggX2_add_X2_come
set_option maxRecDepth 20000 in
theorem ggX2_fill_X2_come : GoodIn wsX2_fill wsX2_come := goodIn_r _ [6, 7, 5, 8, 9, 10, 11, 12, 4, 13, 14, 15, 16, 17, 18, 19, 20, 21, 22, 23, 24, 25, 26, 27, 28, 29, 30, 31, 32, 33, 34, 35, 36, 37, 38, 39] (by decide +kernel) (by decide +kernel)
set_option maxRecDepth 20000 in
theorem gX2_fill_X2_come : GoodIn wsX2_fill (wsV RX2 135 RX2 yX2_come wsX2_come) := goodIn_app (goodIn_r _ [1, 2, 3, 4] (by decide +kernel) (by decide +kernel)) ggX2_fill_X2_come
set_option maxRecDepth 20000 in
theorem ggX2_sum_X2_come : GoodIn wsX2_sum wsX2_come := goodIn_r _ [14, 15, 1, 16, 9, 17, 18, 19, 6, 20, 21, 22, 23, 24, 25, 26, 27, 28, 29, 30, 31, 32, 35, 36, 37, 38, 39, 40, 41, 42, 43, 44, 45, 46, 47, 48] (by decide +kernel) (by decide +kernel)
set_option maxRecDepth 20000 in
theorem gX2_sum_X2_come : GoodIn wsX2_sum (wsV RX2 135 RX2 yX2_come wsX2_come) := goodIn_app (goodIn_r _ [3, 4, 5, 6] (by decide +kernel) (by decide +kernel)) ggX2_sum_X2_come
set_option maxRecDepth 20000 in
theorem ggX2_sum_X2_anew : GoodIn wsX2_sum wsX2_anew := goodIn_r _ [33, 1, 9, 34, 35, 36, 37, 38, 39, 40, 41, 42, 43, 44, 45, 46, 47, 48] (by decide +kernel) (by decide +kernel)
set_option maxRecDepth 20000 in
theorem gX2_sum_X2_anew : GoodIn wsX2_sum (wsV RX2 111 RX2 yX2_anew wsX2_anew) := goodIn_app (goodIn_r _ [11, 12, 13, 6] (by decide +kernel) (by decide +kernel)) ggX2_sum_X2_anew
set_option maxRecDepth 20000 in
theorem ggX2_init_X2_anew : GoodIn wsX2_init wsX2_anew := goodIn_r _ [88, 89, 81, 75, 90, 91, 92, 93, 94, 95, 96, 97, 98, 99, 100, 101, 102, 103] (by decide +kernel) (by decide +kernel)
set_option maxRecDepth 20000 in
theorem gX2_init_X2_anew : GoodIn wsX2_init (wsV RX2 111 RX2 yX2_anew wsX2_anew) := goodIn_app (goodIn_r _ [84, 85, 86, 87] (by decide +kernel) (by decide +kernel)) ggX2_init_X2_anew
abbrev vwCl : List vw_C := [(RX0, TX0, 6), (RX1, TX1, 6), (RX2, TX2, 14)]
