theorem inX0 : ∀ w ∈ wsX00, w ∈ lw_tbl := fun w h => (goodIn_r (big := lw_tbl) wsX00 [48, 50, 52, 54, 56, 58] (by decide +kernel) (by decide +kernel) w h).1
theorem inX1 : ∀ w ∈ wsX10, w ∈ lw_tbl := fun w h => (goodIn_r (big := lw_tbl) wsX10 [69, 71, 73, 75, 77, 79] (by decide +kernel) (by decide +kernel) w h).1
theorem inX2 : ∀ w ∈ wsX20, w ∈ lw_tbl := fun w h => (goodIn_r (big := lw_tbl) wsX20 [234, 236, 238, 240, 242, 244, 246, 248, 250, 252, 254, 256, 258, 260] (by decide +kernel) (by decide +kernel) w h).1
set_option maxRecDepth 20000 in
theorem gL_law_X1_init : GoodIn lw_tbl wsX1_init := goodIn_r _ [19, 20, 21, 22, 61, 63, 64, 65, 23, 24, 13, 66, 62, 67, 68, 26, 27, 28, 37, 29, 31, 0, 32, 38, 33, 40, 34, 42, 35, 44, 36, 46, 69, 71, 73, 75, 77, 79, 48, 50, 52, 54, 56, 58] (by decide +kernel) (by decide +kernel)
set_option maxRecDepth 20000 in
theorem gL_X2i_0 : GoodIn lw_tbl [Cond.code yX2_init cX2_init 1 none] := goodIn_p _ [146] rfl (by decide +kernel)
set_option maxRecDepth 20000 in
theorem gL_X2i_1 : GoodIn lw_tbl wsX2_init_r1 := goodIn_r _ [147, 21, 22, 62, 148, 149, 150, 151, 152, 153, 154, 155, 156, 157, 158, 159, 160, 161, 162, 163, 164, 165, 166, 167] (by decide +kernel) (by decide +kernel)
set_option maxRecDepth 20000 in
theorem gL_X2i_2 : GoodIn lw_tbl wsX2_init_r2 := goodIn_r _ [168, 169, 170, 171, 172, 173, 174, 175, 176, 177, 178, 179, 180, 181, 182, 183, 184, 185, 186, 187, 188, 189, 190, 191] (by decide +kernel) (by decide +kernel)
set_option maxRecDepth 20000 in
theorem gL_X2i_3 : GoodIn lw_tbl wsX2_init_r3 := goodIn_r _ [192, 193, 194, 195, 196, 197, 198, 199, 200, 201, 202, 203, 204, 205, 206, 207, 208, 209, 210, 211, 220, 221, 212, 213] (by decide +kernel) (by decide +kernel)
set_option maxRecDepth 20000 in
theorem gL_X2i_4 : GoodIn lw_tbl wsX2_init_r4 := goodIn_r _ [214, 215, 222, 223, 224, 225, 227, 228, 229, 230, 232, 216, 218, 5, 14, 219, 231] (by decide +kernel) (by decide +kernel)
set_option maxRecDepth 20000 in
theorem gL_X2i_w : GoodIn lw_tbl wsX20 := goodIn_r _ [234, 236, 238, 240, 242, 244, 246, 248, 250, 252, 254, 256, 258, 260] (by decide +kernel) (by decide +kernel)
theorem gL_law_X2_init : GoodIn lw_tbl wsX2_init := goodIn_app (a := [Cond.code yX2_init cX2_init 1 none]) gL_X2i_0 (goodIn_app (goodIn_app (goodIn_app (goodIn_app gL_X2i_1 gL_X2i_2) gL_X2i_3) gL_X2i_4) gL_X2i_w)
set_option maxRecDepth 20000 in
theorem gL_law_X1_feed : GoodIn lw_tbl (wsV RL 13 RX1 yX1_feed wsX1_feed) := goodIn_app (goodIn_r _ [82, 83, 84, 12] (by decide +kernel) (by decide +kernel)) (goodIn_r _ [85, 64, 86, 88, 1, 12, 89, 63, 69, 71, 73, 75, 77, 79] (by decide +kernel) (by decide +kernel))
set_option maxRecDepth 20000 in
theorem gL_law_X2_feed : GoodIn lw_tbl (wsV RL 17 RX2 yX2_feed wsX2_feed) := goodIn_app (goodIn_r _ [263, 264, 265, 14] (by decide +kernel) (by decide +kernel)) (goodIn_r _ [266, 226, 267, 269, 6, 14, 270, 225, 234, 236, 238, 240, 242, 244, 246, 248, 250, 252, 254, 256, 258, 260] (by decide +kernel) (by decide +kernel))
set_option maxRecDepth 20000 in
theorem gL_law_X1_end : GoodIn lw_tbl (wsV RL 18 RX1 yX1_end wsX1_end) := goodIn_app (goodIn_r _ [90, 91, 92, 12] (by decide +kernel) (by decide +kernel)) (goodIn_r _ [93, 64, 69, 71, 73, 75, 77, 79] (by decide +kernel) (by decide +kernel))
set_option maxRecDepth 20000 in
theorem gL_law_X2_end : GoodIn lw_tbl (wsV RL 22 RX2 yX2_end wsX2_end) := goodIn_app (goodIn_r _ [271, 272, 273, 14] (by decide +kernel) (by decide +kernel)) (goodIn_r _ [274, 226, 234, 236, 238, 240, 242, 244, 246, 248, 250, 252, 254, 256, 258, 260] (by decide +kernel) (by decide +kernel))
set_option maxRecDepth 20000 in
theorem gL_law_X1_add : GoodIn lw_tbl (wsV RL 23 RX1 yX1_add wsX1_add) := goodIn_app (goodIn_r _ [94, 95, 96, 12] (by decide +kernel) (by decide +kernel)) (goodIn_r _ [97, 64, 66, 63, 100, 13, 2, 101, 38, 37, 102, 104, 3, 105, 40, 42, 44, 46, 109, 114, 106, 107, 108, 111, 112, 113, 116, 117, 118, 69, 71, 73, 75, 77, 79, 48, 50, 52, 54, 56, 58] (by decide +kernel) (by decide +kernel))
set_option maxRecDepth 20000 in
theorem gL_law_X2_add : GoodIn lw_tbl (wsV RL 27 RX2 yX2_add wsX2_add) := goodIn_app (goodIn_r _ [275, 276, 277, 14] (by decide +kernel) (by decide +kernel)) (goodIn_r _ [278, 226, 225, 279, 281, 7, 14, 231, 282, 228, 230, 229, 283, 285, 8, 286, 221, 287, 289, 9, 220, 223, 224, 291, 293, 10, 290, 294, 234, 236, 238, 240, 242, 244, 246, 248, 250, 252, 254, 256, 258, 260] (by decide +kernel) (by decide +kernel))
set_option maxRecDepth 20000 in
theorem gL_law_X1_fill : GoodIn lw_tbl (wsV RL 28 RX1 yX1_fill wsX1_fill) := goodIn_app (goodIn_r _ [119, 120, 121, 12] (by decide +kernel) (by decide +kernel)) (goodIn_r _ [122, 66, 100, 13, 2, 101, 38, 37, 102, 104, 3, 105, 40, 42, 44, 46, 109, 114, 106, 107, 108, 111, 112, 113, 116, 117, 118, 69, 71, 73, 75, 77, 79, 48, 50, 52, 54, 56, 58] (by decide +kernel) (by decide +kernel))
set_option maxRecDepth 20000 in
theorem gL_law_X2_fill : GoodIn lw_tbl (wsV RL 32 RX2 yX2_fill wsX2_fill) := goodIn_app (goodIn_r _ [295, 296, 297, 14] (by decide +kernel) (by decide +kernel)) (goodIn_r _ [298, 279, 281, 7, 14, 231, 282, 228, 230, 229, 283, 285, 8, 286, 221, 287, 289, 9, 220, 223, 224, 291, 293, 10, 290, 294, 234, 236, 238, 240, 242, 244, 246, 248, 250, 252, 254, 256, 258, 260] (by decide +kernel) (by decide +kernel))
set_option maxRecDepth 20000 in
theorem gL_law_X1_key : GoodIn lw_tbl (wsV RL 33 RX1 yX1_key wsX1_key) := goodIn_app (goodIn_r _ [123, 124, 125, 12] (by decide +kernel) (by decide +kernel)) (goodIn_r _ [126, 64, 65, 63, 69, 71, 73, 75, 77, 79] (by decide +kernel) (by decide +kernel))
set_option maxRecDepth 20000 in
theorem gL_law_X2_key : GoodIn lw_tbl (wsV RL 36 RX2 yX2_key wsX2_key) := goodIn_app (goodIn_r _ [299, 300, 301, 14] (by decide +kernel) (by decide +kernel)) (goodIn_r _ [302, 226, 227, 225, 234, 236, 238, 240, 242, 244, 246, 248, 250, 252, 254, 256, 258, 260] (by decide +kernel) (by decide +kernel))
set_option maxRecDepth 20000 in
theorem gL_law_X1_sum : GoodIn lw_tbl (wsV RL 37 RX1 yX1_sum wsX1_sum) := goodIn_app (goodIn_r _ [127, 128, 129, 12] (by decide +kernel) (by decide +kernel)) (goodIn_r _ [130, 66, 65, 67, 68, 100, 13, 2, 101, 38, 37, 102, 104, 3, 105, 40, 42, 44, 46, 109, 114, 106, 107, 108, 111, 112, 113, 116, 117, 118, 133, 4, 134, 135, 136, 31, 0, 32, 33, 34, 35, 36, 69, 71, 73, 75, 77, 79, 48, 50, 52, 54, 56, 58] (by decide +kernel) (by decide +kernel))
set_option maxRecDepth 20000 in
theorem gL_law_X2_sum : GoodIn lw_tbl (wsV RL 41 RX2 yX2_sum wsX2_sum) := goodIn_app (goodIn_r _ [303, 304, 305, 14] (by decide +kernel) (by decide +kernel)) (goodIn_r _ [306, 231, 227, 279, 281, 7, 14, 307, 232, 229, 233, 216, 218, 5, 282, 228, 230, 283, 285, 8, 286, 221, 287, 289, 9, 220, 223, 224, 291, 293, 10, 290, 294, 219, 222, 234, 236, 238, 240, 242, 244, 246, 248, 250, 252, 254, 256, 258, 260] (by decide +kernel) (by decide +kernel))
set_option maxRecDepth 20000 in
theorem gL_law_X1_sumAt : GoodIn lw_tbl (wsV RL 42 RX1 yX1_sumAt wsX1_sumAt) := goodIn_app (goodIn_r _ [138, 139, 140, 12] (by decide +kernel) (by decide +kernel)) (goodIn_r _ [141, 68, 67, 69, 71, 73, 75, 77, 79] (by decide +kernel) (by decide +kernel))
set_option maxRecDepth 20000 in
theorem gL_law_X2_sumAt : GoodIn lw_tbl (wsV RL 46 RX2 yX2_sumAt wsX2_sumAt) := goodIn_app (goodIn_r _ [308, 309, 310, 14] (by decide +kernel) (by decide +kernel)) (goodIn_r _ [311, 233, 232, 234, 236, 238, 240, 242, 244, 246, 248, 250, 252, 254, 256, 258, 260] (by decide +kernel) (by decide +kernel))
