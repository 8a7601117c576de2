theorem goodIn_c8 {big a : List Cond} {w : Cond} (h1 : GoodIn big [w]) (h2 : GoodIn big a) : GoodIn big (w :: a) := fun x hx => by
  rcases List.mem_cons.mp hx with rfl | hx
  · exact h1 x List.mem_cons_self
  · exact h2 x hx
theorem ggx1 : GoodIn wsL_law wsX10 := goodIn_sub inlX1 (by decide +kernel)
theorem ggx2 : GoodIn wsL_law wsX20 := goodIn_sub inlX2 (by decide +kernel)
theorem ggx4 : GoodIn wsL_law wsX40 := goodIn_sub inlX4 (by decide +kernel)
theorem ggx5 : GoodIn wsL_law wsX50 := goodIn_sub inlX5 (by decide +kernel)
theorem ggx6 : GoodIn wsL_law wsX60 := goodIn_sub inlX6 (by decide +kernel)
theorem ggx7 : GoodIn wsL_law wsX70 := goodIn_sub inlX7 (by decide +kernel)
set_option maxRecDepth 20000 in
theorem ggL_law_X7_init : GoodIn wsL_law wsX7_init := goodIn_r _ [8, 9, 10, 11, 12, 13, 14, 15, 16, 17, 18, 19, 20, 21, 22, 23, 24, 25, 26, 27, 28, 29, 30, 31, 32, 33, 34, 35, 36, 37, 38, 39, 40, 41, 42, 43, 44, 430, 431, 432, 433, 434, 435, 436, 437, 438, 439, 440, 441, 442, 443, 444, 445] (by decide +kernel) (by decide +kernel)
set_option maxRecDepth 20000 in
theorem gL_law_X7_init : GoodIn wsL_law (wsX7_init) := ggL_law_X7_init
set_option maxRecDepth 20000 in
theorem ggL_law_L_cell : GoodIn wsL_law wsL_cell := goodIn_r _ [48] (by decide +kernel) (by decide +kernel)
set_option maxRecDepth 20000 in
theorem gL_law_L_cell : GoodIn wsL_law (va_wsS RL 123 yL_cell wsL_cell) := goodIn_app (goodIn_of _ (by decide +kernel)) ggL_law_L_cell
set_option maxRecDepth 20000 in
theorem ggL_law_X7_count : GoodIn wsL_law wsX7_count := goodIn_r _ [52, 14, 430, 431, 432, 433, 434, 435, 436, 437] (by decide +kernel) (by decide +kernel)
set_option maxRecDepth 20000 in
theorem gL_law_X7_count : GoodIn wsL_law (wsV RL 104 RX7 yX7_count wsX7_count) := goodIn_app (goodIn_of _ (by decide +kernel)) ggL_law_X7_count
theorem goodIn_c9 {big a : List Cond} {w : Cond} (hm : w ∈ big) (hg : goodWord w = true) (h : GoodIn big a) : GoodIn big (w :: a) := fun x hx => by
  rcases List.mem_cons.mp hx with rfl | hx
  · exact ⟨hm, good_of_word hg⟩
  · exact h x hx
theorem gact_l : Cond.code yL_act cL_act 11 (some .long) ∈ wsL_law := List.mem_append_left _ (List.mem_append_left _ (List.mem_append_left _ (List.mem_append_left _ (List.mem_append_left _ (List.mem_append_left _ (List.mem_append_left _ (List.mem_append_left _ (List.mem_append_left _ (List.mem_append_left _ (List.mem_append_right _ (List.mem_append_right _ (List.mem_append_left _ (List.mem_append_right _ List.mem_cons_self)))))))))))))
set_option maxRecDepth 20000 in
theorem gg_wsL_act_r1 : GoodIn wsL_law wsL_act_r1 := goodIn_r _ [4, 56, 57, 47, 58, 59, 49, 50, 51, 2, 52, 14, 60, 61, 62, 63, 64, 65, 66, 67, 68, 69, 70, 71] (by decide +kernel) (by decide +kernel)
set_option maxRecDepth 20000 in
theorem gg_wsL_act_r2 : GoodIn wsL_law wsL_act_r2 := goodIn_r _ [72, 12, 73, 74, 75, 18, 76, 77, 78, 79, 80, 81, 82, 83, 84, 85, 86, 87, 13, 88, 89, 90, 91, 92] (by decide +kernel) (by decide +kernel)
set_option maxRecDepth 20000 in
theorem gg_wsL_act_r3 : GoodIn wsL_law wsL_act_r3 := goodIn_r _ [93, 94, 95, 10, 11, 96, 97, 98, 99, 100, 22, 23, 101, 102, 103, 104, 105, 34, 35, 36, 37, 38, 39, 40] (by decide +kernel) (by decide +kernel)
set_option maxRecDepth 20000 in
theorem gg_wsL_act_r4 : GoodIn wsL_law wsL_act_r4 := goodIn_r _ [41, 106, 107, 108, 109, 110, 111, 112, 113, 114, 115, 116, 117, 118, 119, 120, 121, 17, 122, 123, 124, 125, 126, 127] (by decide +kernel) (by decide +kernel)
set_option maxRecDepth 20000 in
theorem gg_wsL_act_r5 : GoodIn wsL_law wsL_act_r5 := goodIn_r _ [128, 129, 130, 131, 132, 133, 134, 135, 136, 137, 138, 139, 140, 141, 142, 143, 144, 145, 19, 146, 147, 148, 149, 150] (by decide +kernel) (by decide +kernel)
set_option maxRecDepth 20000 in
theorem gg_wsL_act_r6 : GoodIn wsL_law wsL_act_r6 := goodIn_r _ [151, 152, 153, 154, 155, 156, 157, 158, 159, 160, 161, 162, 163, 164, 165, 166, 167, 168, 169, 170, 171, 172, 173, 174] (by decide +kernel) (by decide +kernel)
set_option maxRecDepth 20000 in
theorem gg_wsL_act_r7 : GoodIn wsL_law wsL_act_r7 := goodIn_r _ [175, 176, 20, 177, 178, 179, 180, 181, 182, 183, 184, 185, 186, 187, 188, 189, 190, 191, 192, 193, 194, 195, 196, 197] (by decide +kernel) (by decide +kernel)
set_option maxRecDepth 20000 in
theorem gg_wsL_act_r8 : GoodIn wsL_law wsL_act_r8 := goodIn_r _ [198, 199, 200, 201, 202, 203, 204, 205, 206, 207, 208, 209, 210, 211, 212, 213, 214, 215, 216, 217, 218, 219, 220, 221] (by decide +kernel) (by decide +kernel)
set_option maxRecDepth 20000 in
theorem gg_wsL_act_r9 : GoodIn wsL_law wsL_act_r9 := goodIn_r _ [222, 223, 224, 225, 226, 227, 228, 229, 230, 231, 232, 233, 234, 235, 236, 237, 238, 239, 240, 241, 242, 243, 244, 245] (by decide +kernel) (by decide +kernel)
set_option maxRecDepth 20000 in
theorem gg_wsL_act_r10 : GoodIn wsL_law wsL_act_r10 := goodIn_r _ [246, 247, 248, 249, 250, 251, 252, 253, 254, 255, 256, 257, 258, 259, 260, 261, 262, 263, 264, 265, 266, 267, 268, 269] (by decide +kernel) (by decide +kernel)
set_option maxRecDepth 20000 in
theorem gg_wsL_act_r11 : GoodIn wsL_law wsL_act_r11 := goodIn_r _ [270, 271, 272, 273, 274, 275, 276, 277, 278, 279, 280, 281, 282, 283, 284, 285, 286, 287, 288, 289, 290, 291, 292, 293] (by decide +kernel) (by decide +kernel)
set_option maxRecDepth 20000 in
theorem gg_wsL_act_r12 : GoodIn wsL_law wsL_act_r12 := goodIn_r _ [294, 295, 296, 297, 298, 299, 300, 301, 302, 303, 304, 305, 306, 28, 29, 307, 308, 309, 27, 310, 311, 312, 313, 314] (by decide +kernel) (by decide +kernel)
set_option maxRecDepth 20000 in
theorem gg_wsL_act_r13 : GoodIn wsL_law wsL_act_r13 := goodIn_r _ [315, 316, 317, 318, 319, 320, 321, 322, 323, 324, 325, 326, 327, 328, 329, 330, 331, 332, 333, 334, 335, 336, 337, 338] (by decide +kernel) (by decide +kernel)
set_option maxRecDepth 20000 in
theorem gg_wsL_act_r14 : GoodIn wsL_law wsL_act_r14 := goodIn_r _ [339, 340, 341, 342, 343, 344, 345, 346, 347, 348, 349, 350, 351, 352, 353, 354, 355, 356, 357, 358, 359, 360, 361, 362] (by decide +kernel) (by decide +kernel)
set_option maxRecDepth 20000 in
theorem gg_wsL_act_r15 : GoodIn wsL_law wsL_act_r15 := goodIn_r _ [363, 364, 365, 366, 367, 368, 369, 370, 371, 372, 373, 374, 375, 376, 377, 378, 379, 380, 381, 382, 383, 384, 385, 386] (by decide +kernel) (by decide +kernel)
set_option maxRecDepth 20000 in
theorem gg_wsL_act_r16 : GoodIn wsL_law wsL_act_r16 := goodIn_r _ [387, 388, 389, 390, 391, 392, 393, 394, 395, 396, 397, 398, 399, 400, 401, 24, 402, 403, 404, 405, 406, 407, 408, 409] (by decide +kernel) (by decide +kernel)
set_option maxRecDepth 20000 in
theorem gg_wsL_act_r17 : GoodIn wsL_law wsL_act_r17 := goodIn_r _ [410, 411, 412, 413, 414, 415, 416] (by decide +kernel) (by decide +kernel)
set_option maxRecDepth 20000 in
theorem ggL_law_L_act : GoodIn wsL_law wsL_act := goodIn_c9 gact_l rfl (goodIn_app (goodIn_app (goodIn_app (goodIn_app (goodIn_app (goodIn_app (goodIn_app (goodIn_app (goodIn_app (goodIn_app gg_wsL_act_r1 (goodIn_app gg_wsL_act_r2 (goodIn_app gg_wsL_act_r3 (goodIn_app gg_wsL_act_r4 (goodIn_app gg_wsL_act_r5 (goodIn_app gg_wsL_act_r6 (goodIn_app gg_wsL_act_r7 (goodIn_app gg_wsL_act_r8 (goodIn_app gg_wsL_act_r9 (goodIn_app gg_wsL_act_r10 (goodIn_app gg_wsL_act_r11 (goodIn_app gg_wsL_act_r12 (goodIn_app gg_wsL_act_r13 (goodIn_app gg_wsL_act_r14 (goodIn_app gg_wsL_act_r15 (goodIn_app gg_wsL_act_r16 (gg_wsL_act_r17))))))))))))))))) ggx7) ggx5) ggx6) ggx2) ggx1) ggx4) (goodIn_sub (fun _ h => List.mem_append_left _ (List.mem_append_left _ (List.mem_append_right _ h))) (by decide +kernel))) (goodIn_sub (fun _ h => List.mem_append_left _ (List.mem_append_right _ h)) (by decide +kernel))) (goodIn_sub (fun _ h => List.mem_append_right _ h) (by decide +kernel)))
set_option maxRecDepth 20000 in
theorem gL_law_L_act : GoodIn wsL_law (va_wsS RL 127 yL_act wsL_act) := goodIn_app (goodIn_of _ (by decide +kernel)) ggL_law_L_act
set_option maxRecDepth 20000 in
theorem ggL_law_L_low : GoodIn wsL_law wsL_low := goodIn_r _ [58, 59] (by decide +kernel) (by decide +kernel)
set_option maxRecDepth 20000 in
theorem gL_law_L_low : GoodIn wsL_law (va_wsS RL 101 yL_low wsL_low) := goodIn_app (goodIn_of _ (by decide +kernel)) ggL_law_L_low
theorem ggh_areNested : GoodIn wsL_law [Cond.code yL_areNested cL_areNested 18 (some .boolean)] := goodIn_r _ [419] (by decide +kernel) (by decide +kernel)
set_option maxRecDepth 20000 in
theorem gg_wsL_areNested_r1 : GoodIn wsL_law wsL_areNested_r1 := goodIn_r _ [4, 420, 60, 61, 47, 62, 63, 64, 65, 66, 67, 68, 69, 70, 71, 2, 72, 12, 73, 74, 75, 18, 76, 77] (by decide +kernel) (by decide +kernel)
set_option maxRecDepth 20000 in
theorem gg_wsL_areNested_r2 : GoodIn wsL_law wsL_areNested_r2 := goodIn_r _ [78, 79, 80, 81, 82, 83, 84, 85, 86, 87, 14, 13, 88, 89, 90, 91, 92, 93, 94, 95, 10, 11, 96, 97] (by decide +kernel) (by decide +kernel)
set_option maxRecDepth 20000 in
theorem gg_wsL_areNested_r3 : GoodIn wsL_law wsL_areNested_r3 := goodIn_r _ [98, 99, 100, 22, 23, 101, 102, 103, 104, 105, 34, 35, 36, 37, 38, 39, 40, 41, 106, 107, 108, 109, 110, 111] (by decide +kernel) (by decide +kernel)
set_option maxRecDepth 20000 in
theorem gg_wsL_areNested_r4 : GoodIn wsL_law wsL_areNested_r4 := goodIn_r _ [112, 113, 114, 115, 116, 117, 118, 119, 120, 121, 17, 122, 123, 124, 125, 126, 127, 128, 129, 130, 131, 132, 133, 134] (by decide +kernel) (by decide +kernel)
set_option maxRecDepth 20000 in
theorem gg_wsL_areNested_r5 : GoodIn wsL_law wsL_areNested_r5 := goodIn_r _ [135, 136, 137, 138, 139, 140, 141, 142, 143, 144, 145, 19, 146, 147, 148, 149, 150, 151, 152, 153, 154, 155, 156, 157] (by decide +kernel) (by decide +kernel)
set_option maxRecDepth 20000 in
theorem gg_wsL_areNested_r6 : GoodIn wsL_law wsL_areNested_r6 := goodIn_r _ [158, 159, 160, 161, 162, 163, 164, 165, 166, 167, 168, 169, 170, 171, 172, 173, 174, 175, 176, 20, 177, 178, 179, 180] (by decide +kernel) (by decide +kernel)
set_option maxRecDepth 20000 in
theorem gg_wsL_areNested_r7 : GoodIn wsL_law wsL_areNested_r7 := goodIn_r _ [181, 182, 183, 184, 185, 186, 187, 188, 189, 190, 191, 192, 193, 194, 195, 196, 197, 198, 199, 200, 201, 202, 203, 204] (by decide +kernel) (by decide +kernel)
set_option maxRecDepth 20000 in
theorem gg_wsL_areNested_r8 : GoodIn wsL_law wsL_areNested_r8 := goodIn_r _ [205, 206, 207, 208, 209, 210, 211, 212, 213, 214, 215, 216, 217, 218, 219, 220, 221, 222, 223, 224, 225, 226, 227, 228] (by decide +kernel) (by decide +kernel)
set_option maxRecDepth 20000 in
theorem gg_wsL_areNested_r9 : GoodIn wsL_law wsL_areNested_r9 := goodIn_r _ [229, 230, 231, 232, 233, 234, 235, 236, 237, 238, 239, 240, 241, 242, 243, 244, 245, 246, 247, 248, 249, 250, 251, 252] (by decide +kernel) (by decide +kernel)
set_option maxRecDepth 20000 in
theorem gg_wsL_areNested_r10 : GoodIn wsL_law wsL_areNested_r10 := goodIn_r _ [253, 254, 255, 256, 257, 258, 259, 260, 261, 262, 263, 264, 265, 266, 267, 268, 269, 270, 271, 272, 273, 274, 275, 276] (by decide +kernel) (by decide +kernel)
set_option maxRecDepth 20000 in
theorem gg_wsL_areNested_r11 : GoodIn wsL_law wsL_areNested_r11 := goodIn_r _ [277, 278, 279, 280, 281, 282, 283, 284, 285, 286, 287, 288, 289, 290, 291, 292, 293, 294, 295, 296, 297, 298, 299, 300] (by decide +kernel) (by decide +kernel)
set_option maxRecDepth 20000 in
theorem gg_wsL_areNested_r12 : GoodIn wsL_law wsL_areNested_r12 := goodIn_r _ [301, 302, 303, 304, 305, 306, 28, 29, 307, 308, 309, 27, 310, 311, 312, 313, 314, 315, 316, 317, 318, 319, 320, 321] (by decide +kernel) (by decide +kernel)
set_option maxRecDepth 20000 in
theorem gg_wsL_areNested_r13 : GoodIn wsL_law wsL_areNested_r13 := goodIn_r _ [322, 323, 324, 325, 326, 327, 328, 329, 330, 331, 332, 333, 334, 335, 336, 337, 338, 339, 340, 341, 342, 343, 344, 345] (by decide +kernel) (by decide +kernel)
set_option maxRecDepth 20000 in
theorem gg_wsL_areNested_r14 : GoodIn wsL_law wsL_areNested_r14 := goodIn_r _ [346, 347, 348, 349, 350, 351, 352, 353, 354, 355, 356, 357, 358, 359, 360] (by decide +kernel) (by decide +kernel)
set_option maxRecDepth 20000 in
theorem ggL_law_L_areNested : GoodIn wsL_law wsL_areNested := goodIn_c8 ggh_areNested (goodIn_app (goodIn_app (goodIn_app (goodIn_app (goodIn_app (goodIn_app (goodIn_app (goodIn_app (goodIn_app gg_wsL_areNested_r1 (goodIn_app gg_wsL_areNested_r2 (goodIn_app gg_wsL_areNested_r3 (goodIn_app gg_wsL_areNested_r4 (goodIn_app gg_wsL_areNested_r5 (goodIn_app gg_wsL_areNested_r6 (goodIn_app gg_wsL_areNested_r7 (goodIn_app gg_wsL_areNested_r8 (goodIn_app gg_wsL_areNested_r9 (goodIn_app gg_wsL_areNested_r10 (goodIn_app gg_wsL_areNested_r11 (goodIn_app gg_wsL_areNested_r12 (goodIn_app gg_wsL_areNested_r13 (gg_wsL_areNested_r14)))))))))))))) ggx5) ggx7) ggx6) ggx2) ggx1) (goodIn_sub (fun _ h => List.mem_append_left _ (List.mem_append_left _ (List.mem_append_right _ h))) (by decide +kernel))) (goodIn_sub (fun _ h => List.mem_append_left _ (List.mem_append_right _ h)) (by decide +kernel))) (goodIn_sub (fun _ h => List.mem_append_right _ h) (by decide +kernel)))
set_option maxRecDepth 20000 in
theorem gL_law_L_areNested : GoodIn wsL_law (va_wsS RL 132 yL_areNested wsL_areNested) := goodIn_app (goodIn_of _ (by decide +kernel)) ggL_law_L_areNested
theorem ggh_isKept : GoodIn wsL_law [Cond.code yL_isKept cL_isKept 15 (some .boolean)] := goodIn_r _ [423] (by decide +kernel) (by decide +kernel)
set_option maxRecDepth 20000 in
theorem gg_wsL_isKept_r1 : GoodIn wsL_law wsL_isKept_r1 := goodIn_r _ [4, 60, 61, 47, 62, 63, 64, 65, 66, 67, 68, 69, 70, 71, 2, 72, 12, 73, 74, 75, 18, 76, 77, 78] (by decide +kernel) (by decide +kernel)
set_option maxRecDepth 20000 in
theorem gg_wsL_isKept_r2 : GoodIn wsL_law wsL_isKept_r2 := goodIn_r _ [79, 80, 81, 82, 83, 84, 85, 86, 87, 14, 13, 88, 89, 90, 91, 92, 93, 94, 95, 10, 11, 96, 97, 98] (by decide +kernel) (by decide +kernel)
set_option maxRecDepth 20000 in
theorem gg_wsL_isKept_r3 : GoodIn wsL_law wsL_isKept_r3 := goodIn_r _ [99, 100, 22, 23, 101, 102, 103, 104, 105, 34, 35, 36, 37, 38, 39, 40, 41, 106, 107, 108, 109, 110, 111, 112] (by decide +kernel) (by decide +kernel)
set_option maxRecDepth 20000 in
theorem gg_wsL_isKept_r4 : GoodIn wsL_law wsL_isKept_r4 := goodIn_r _ [113, 114, 115, 116, 117, 118, 119, 120, 121, 17, 122, 123, 124, 125, 126, 127, 128, 129, 130, 131, 132, 133, 134, 135] (by decide +kernel) (by decide +kernel)
set_option maxRecDepth 20000 in
theorem gg_wsL_isKept_r5 : GoodIn wsL_law wsL_isKept_r5 := goodIn_r _ [136, 137, 138, 139, 140, 141, 142, 143, 144, 145, 19, 146, 147, 148, 149, 150, 151, 152, 153, 154, 155, 156, 157, 158] (by decide +kernel) (by decide +kernel)
set_option maxRecDepth 20000 in
theorem gg_wsL_isKept_r6 : GoodIn wsL_law wsL_isKept_r6 := goodIn_r _ [159, 160, 161, 162, 163, 164, 165, 166, 167, 168, 169, 170, 171, 172, 173, 174, 175, 176, 20, 177, 178, 179, 180, 181] (by decide +kernel) (by decide +kernel)
set_option maxRecDepth 20000 in
theorem gg_wsL_isKept_r7 : GoodIn wsL_law wsL_isKept_r7 := goodIn_r _ [182, 183, 184, 185, 186, 187, 188, 189, 190, 191, 192, 193, 194, 195, 196, 197, 198, 199, 200, 201, 202, 203, 204, 205] (by decide +kernel) (by decide +kernel)
set_option maxRecDepth 20000 in
theorem gg_wsL_isKept_r8 : GoodIn wsL_law wsL_isKept_r8 := goodIn_r _ [206, 207, 208, 209, 210, 211, 212, 213, 214, 215, 216, 217, 218, 219, 220, 221, 222, 223, 224, 225, 226, 227, 228, 229] (by decide +kernel) (by decide +kernel)
set_option maxRecDepth 20000 in
theorem gg_wsL_isKept_r9 : GoodIn wsL_law wsL_isKept_r9 := goodIn_r _ [230, 231, 232, 233, 234, 235, 236, 237, 238, 239, 240, 241, 242, 243, 244, 245, 246, 247, 248, 249, 250, 251, 252, 253] (by decide +kernel) (by decide +kernel)
set_option maxRecDepth 20000 in
theorem gg_wsL_isKept_r10 : GoodIn wsL_law wsL_isKept_r10 := goodIn_r _ [254, 255, 256, 257, 258, 259, 260, 261, 262, 263, 264, 265, 266, 267, 268, 269, 270, 271, 272, 273, 274, 275, 276, 277] (by decide +kernel) (by decide +kernel)
set_option maxRecDepth 20000 in
theorem gg_wsL_isKept_r11 : GoodIn wsL_law wsL_isKept_r11 := goodIn_r _ [278, 279, 280, 281, 282, 283, 284, 285, 286, 287, 288, 289, 290, 291, 292, 293, 294, 295, 296, 297, 298, 299, 300, 301] (by decide +kernel) (by decide +kernel)
set_option maxRecDepth 20000 in
theorem gg_wsL_isKept_r12 : GoodIn wsL_law wsL_isKept_r12 := goodIn_r _ [302, 303, 304, 305, 306, 28, 29, 307, 308, 309, 27, 310, 311, 312, 313, 314, 315, 316, 317, 318, 319, 320, 321, 322] (by decide +kernel) (by decide +kernel)
set_option maxRecDepth 20000 in
theorem gg_wsL_isKept_r13 : GoodIn wsL_law wsL_isKept_r13 := goodIn_r _ [323, 324, 325, 326, 327, 328, 329, 330, 331, 332, 333, 334, 335, 336, 337, 338, 339, 340, 341, 342, 343, 344, 345, 346] (by decide +kernel) (by decide +kernel)
set_option maxRecDepth 20000 in
theorem gg_wsL_isKept_r14 : GoodIn wsL_law wsL_isKept_r14 := goodIn_r _ [347, 348, 349, 350, 351, 352, 353, 354, 355, 356, 357, 358, 359, 360] (by decide +kernel) (by decide +kernel)
set_option maxRecDepth 20000 in
theorem ggL_law_L_isKept : GoodIn wsL_law wsL_isKept := goodIn_c8 ggh_isKept (goodIn_app (goodIn_app (goodIn_app (goodIn_app (goodIn_app (goodIn_app (goodIn_app (goodIn_app (goodIn_app gg_wsL_isKept_r1 (goodIn_app gg_wsL_isKept_r2 (goodIn_app gg_wsL_isKept_r3 (goodIn_app gg_wsL_isKept_r4 (goodIn_app gg_wsL_isKept_r5 (goodIn_app gg_wsL_isKept_r6 (goodIn_app gg_wsL_isKept_r7 (goodIn_app gg_wsL_isKept_r8 (goodIn_app gg_wsL_isKept_r9 (goodIn_app gg_wsL_isKept_r10 (goodIn_app gg_wsL_isKept_r11 (goodIn_app gg_wsL_isKept_r12 (goodIn_app gg_wsL_isKept_r13 (gg_wsL_isKept_r14)))))))))))))) ggx5) ggx7) ggx6) ggx2) ggx1) (goodIn_sub (fun _ h => List.mem_append_left _ (List.mem_append_left _ (List.mem_append_right _ h))) (by decide +kernel))) (goodIn_sub (fun _ h => List.mem_append_left _ (List.mem_append_right _ h)) (by decide +kernel))) (goodIn_sub (fun _ h => List.mem_append_right _ h) (by decide +kernel)))
set_option maxRecDepth 20000 in
theorem gL_law_L_isKept : GoodIn wsL_law (va_wsS RL 136 yL_isKept wsL_isKept) := goodIn_app (goodIn_of _ (by decide +kernel)) ggL_law_L_isKept
theorem ggh_areDigits : GoodIn wsL_law [Cond.code yL_areDigits cL_areDigits 14 (some .boolean)] := goodIn_r _ [426] (by decide +kernel) (by decide +kernel)
set_option maxRecDepth 20000 in
theorem gg_wsL_areDigits_r1 : GoodIn wsL_law wsL_areDigits_r1 := goodIn_r _ [338, 339, 340, 2, 341, 331, 177, 178, 179, 180, 181, 182, 14, 13, 342, 343, 344, 345, 333, 60, 61, 47, 62, 63] (by decide +kernel) (by decide +kernel)
set_option maxRecDepth 20000 in
theorem gg_wsL_areDigits_r2 : GoodIn wsL_law wsL_areDigits_r2 := goodIn_r _ [64, 65, 4, 66, 67, 68, 69, 70, 71, 72, 12, 73, 74, 75, 18, 76, 77, 78, 79, 80, 81, 82, 83, 84] (by decide +kernel) (by decide +kernel)
set_option maxRecDepth 20000 in
theorem gg_wsL_areDigits_r3 : GoodIn wsL_law wsL_areDigits_r3 := goodIn_r _ [85, 86, 87, 88, 89, 90, 91, 92, 93, 94, 95, 10, 11, 96, 97, 98, 99, 100, 22, 23, 101, 102, 103, 104] (by decide +kernel) (by decide +kernel)
set_option maxRecDepth 20000 in
theorem gg_wsL_areDigits_r4 : GoodIn wsL_law wsL_areDigits_r4 := goodIn_r _ [105, 34, 35, 36, 37, 38, 39, 40, 41, 106, 107, 108, 109, 110, 111, 112, 113, 114, 115, 116, 117, 118, 119, 120] (by decide +kernel) (by decide +kernel)
set_option maxRecDepth 20000 in
theorem gg_wsL_areDigits_r5 : GoodIn wsL_law wsL_areDigits_r5 := goodIn_r _ [121, 17, 122, 123, 124, 125, 126, 127, 128, 129, 130, 131, 132, 133, 134, 135, 136, 137, 138, 139, 140, 141, 142, 143] (by decide +kernel) (by decide +kernel)
set_option maxRecDepth 20000 in
theorem gg_wsL_areDigits_r6 : GoodIn wsL_law wsL_areDigits_r6 := goodIn_r _ [144, 145, 19, 146, 147, 148, 149, 150, 151, 152, 153, 154, 155, 156, 157, 158, 159, 160, 161, 162, 163, 164, 165, 166] (by decide +kernel) (by decide +kernel)
set_option maxRecDepth 20000 in
theorem gg_wsL_areDigits_r7 : GoodIn wsL_law wsL_areDigits_r7 := goodIn_r _ [167, 168, 169, 170, 171, 172, 173, 174, 175, 176, 20, 183, 184, 185, 186, 187, 188, 189, 190, 191, 192, 193, 194, 195] (by decide +kernel) (by decide +kernel)
set_option maxRecDepth 20000 in
theorem gg_wsL_areDigits_r8 : GoodIn wsL_law wsL_areDigits_r8 := goodIn_r _ [196, 197, 198, 199, 200, 201, 202, 203, 204, 205, 206, 207, 208, 209, 210, 211, 212, 213, 214, 215, 216, 217, 218, 219] (by decide +kernel) (by decide +kernel)
set_option maxRecDepth 20000 in
theorem gg_wsL_areDigits_r9 : GoodIn wsL_law wsL_areDigits_r9 := goodIn_r _ [220, 221, 222, 223, 224, 225, 226, 227, 228, 229, 230, 231, 232, 233, 234, 235, 236, 237, 238, 239, 240, 241, 242, 243] (by decide +kernel) (by decide +kernel)
set_option maxRecDepth 20000 in
theorem gg_wsL_areDigits_r10 : GoodIn wsL_law wsL_areDigits_r10 := goodIn_r _ [244, 245, 246, 247, 248, 249, 250, 251, 252, 253, 254, 255, 256, 257, 258, 259, 260, 261, 262, 263, 264, 265, 266, 267] (by decide +kernel) (by decide +kernel)
set_option maxRecDepth 20000 in
theorem gg_wsL_areDigits_r11 : GoodIn wsL_law wsL_areDigits_r11 := goodIn_r _ [268, 269, 270, 271, 272, 273, 274, 275, 276, 277, 278, 279, 280, 281, 282, 283, 284, 285, 286, 287, 288, 289, 290, 291] (by decide +kernel) (by decide +kernel)
set_option maxRecDepth 20000 in
theorem gg_wsL_areDigits_r12 : GoodIn wsL_law wsL_areDigits_r12 := goodIn_r _ [292, 293, 294, 295, 296, 297, 298, 299, 300, 301, 302, 303, 304, 305, 306, 28, 29, 307, 308, 309, 27, 310, 311, 312] (by decide +kernel) (by decide +kernel)
set_option maxRecDepth 20000 in
theorem gg_wsL_areDigits_r13 : GoodIn wsL_law wsL_areDigits_r13 := goodIn_r _ [313, 314, 315, 316, 317, 318, 319, 320, 321, 322, 323, 324, 325, 326, 327, 328, 329, 330, 332, 334, 335, 336, 337, 346] (by decide +kernel) (by decide +kernel)
set_option maxRecDepth 20000 in
theorem gg_wsL_areDigits_r14 : GoodIn wsL_law wsL_areDigits_r14 := goodIn_r _ [347, 348, 349, 350, 351, 352, 353, 354, 355, 356, 357, 358, 359, 360, 395, 396, 397, 398, 399, 400, 401, 24, 402, 403] (by decide +kernel) (by decide +kernel)
set_option maxRecDepth 20000 in
theorem gg_wsL_areDigits_r15 : GoodIn wsL_law wsL_areDigits_r15 := goodIn_r _ [404, 405, 406, 407, 408, 409, 410, 411, 412, 413, 414, 415, 416] (by decide +kernel) (by decide +kernel)
set_option maxRecDepth 20000 in
theorem ggL_law_L_areDigits : GoodIn wsL_law wsL_areDigits := goodIn_c8 ggh_areDigits (goodIn_app (goodIn_app (goodIn_app (goodIn_app (goodIn_app (goodIn_app (goodIn_app (goodIn_app (goodIn_app gg_wsL_areDigits_r1 (goodIn_app gg_wsL_areDigits_r2 (goodIn_app gg_wsL_areDigits_r3 (goodIn_app gg_wsL_areDigits_r4 (goodIn_app gg_wsL_areDigits_r5 (goodIn_app gg_wsL_areDigits_r6 (goodIn_app gg_wsL_areDigits_r7 (goodIn_app gg_wsL_areDigits_r8 (goodIn_app gg_wsL_areDigits_r9 (goodIn_app gg_wsL_areDigits_r10 (goodIn_app gg_wsL_areDigits_r11 (goodIn_app gg_wsL_areDigits_r12 (goodIn_app gg_wsL_areDigits_r13 (goodIn_app gg_wsL_areDigits_r14 (gg_wsL_areDigits_r15))))))))))))))) ggx5) ggx7) ggx6) ggx2) ggx1) (goodIn_sub (fun _ h => List.mem_append_right _ h) (by decide +kernel))) (goodIn_sub (fun _ h => List.mem_append_left _ (List.mem_append_left _ (List.mem_append_right _ h))) (by decide +kernel))) (goodIn_sub (fun _ h => List.mem_append_left _ (List.mem_append_right _ h)) (by decide +kernel)))
set_option maxRecDepth 20000 in
theorem gL_law_L_areDigits : GoodIn wsL_law (va_wsS RL 140 yL_areDigits wsL_areDigits) := goodIn_app (goodIn_of _ (by decide +kernel)) ggL_law_L_areDigits
theorem ggh_areAlike : GoodIn wsL_law [Cond.code yL_areAlike cL_areAlike 6 (some .boolean)] := goodIn_r _ [429] (by decide +kernel) (by decide +kernel)
set_option maxRecDepth 20000 in
theorem gg_wsL_areAlike_r1 : GoodIn wsL_law wsL_areAlike_r1 := goodIn_r _ [49, 50, 51, 2, 52, 14, 60, 61, 47, 62, 63, 64, 65, 4, 66, 67, 68, 69, 70, 71, 72, 12, 73, 74] (by decide +kernel) (by decide +kernel)
set_option maxRecDepth 20000 in
theorem gg_wsL_areAlike_r2 : GoodIn wsL_law wsL_areAlike_r2 := goodIn_r _ [75, 18, 76, 77, 78, 79, 80, 81, 82, 83, 84, 85, 86, 87, 13, 88, 89, 90, 91, 92, 93, 94, 95, 10] (by decide +kernel) (by decide +kernel)
set_option maxRecDepth 20000 in
theorem gg_wsL_areAlike_r3 : GoodIn wsL_law wsL_areAlike_r3 := goodIn_r _ [11, 96, 97, 98, 99, 100, 22, 23, 101, 102, 103, 104, 105, 34, 35, 36, 37, 38, 39, 40, 41, 106, 107, 108] (by decide +kernel) (by decide +kernel)
set_option maxRecDepth 20000 in
theorem gg_wsL_areAlike_r4 : GoodIn wsL_law wsL_areAlike_r4 := goodIn_r _ [109, 110, 111, 112, 113, 114, 115, 116, 117, 118, 119, 120, 121, 17, 122, 123, 124, 125, 126, 127, 128, 129, 130, 131] (by decide +kernel) (by decide +kernel)
set_option maxRecDepth 20000 in
theorem gg_wsL_areAlike_r5 : GoodIn wsL_law wsL_areAlike_r5 := goodIn_r _ [132, 133, 134, 135, 136, 137, 138, 139, 140, 141, 142, 143, 144, 145, 19, 146, 147, 148, 149, 150, 151, 152, 153, 154] (by decide +kernel) (by decide +kernel)
set_option maxRecDepth 20000 in
theorem gg_wsL_areAlike_r6 : GoodIn wsL_law wsL_areAlike_r6 := goodIn_r _ [155, 156, 157, 158, 159, 160, 161, 162, 163, 164, 165, 166, 167, 168, 169, 170, 171, 172, 173, 174, 175, 176, 20, 177] (by decide +kernel) (by decide +kernel)
set_option maxRecDepth 20000 in
theorem gg_wsL_areAlike_r7 : GoodIn wsL_law wsL_areAlike_r7 := goodIn_r _ [178, 179, 180, 181, 182, 183, 184, 185, 186, 187, 188, 189, 190, 191, 192, 193, 194, 195, 196, 197, 198, 199, 200, 201] (by decide +kernel) (by decide +kernel)
set_option maxRecDepth 20000 in
theorem gg_wsL_areAlike_r8 : GoodIn wsL_law wsL_areAlike_r8 := goodIn_r _ [202, 203, 204, 205, 206, 207, 208, 209, 210, 211, 212, 213, 214, 215, 216, 217, 218, 219, 220, 221, 222, 223, 224, 225] (by decide +kernel) (by decide +kernel)
set_option maxRecDepth 20000 in
theorem gg_wsL_areAlike_r9 : GoodIn wsL_law wsL_areAlike_r9 := goodIn_r _ [226, 227, 228, 229, 230, 231, 232, 233, 234, 235, 236, 237, 238, 239, 240, 241, 242, 243, 244, 245, 246, 247, 248, 249] (by decide +kernel) (by decide +kernel)
set_option maxRecDepth 20000 in
theorem gg_wsL_areAlike_r10 : GoodIn wsL_law wsL_areAlike_r10 := goodIn_r _ [250, 251, 252, 253, 254, 255, 256, 257, 258, 259, 260, 261, 262, 263, 264, 265, 266, 267, 268, 269, 270, 271, 272, 273] (by decide +kernel) (by decide +kernel)
set_option maxRecDepth 20000 in
theorem gg_wsL_areAlike_r11 : GoodIn wsL_law wsL_areAlike_r11 := goodIn_r _ [274, 275, 276, 277, 278, 279, 280, 281, 282, 283, 284, 285, 286, 287, 288, 289, 290, 291, 292, 293, 294, 295, 296, 297] (by decide +kernel) (by decide +kernel)
set_option maxRecDepth 20000 in
theorem gg_wsL_areAlike_r12 : GoodIn wsL_law wsL_areAlike_r12 := goodIn_r _ [298, 299, 300, 301, 302, 303, 304, 305, 306, 28, 29, 307, 308, 309, 27, 310, 311, 312, 313, 314, 315, 316, 317, 318] (by decide +kernel) (by decide +kernel)
set_option maxRecDepth 20000 in
theorem gg_wsL_areAlike_r13 : GoodIn wsL_law wsL_areAlike_r13 := goodIn_r _ [319, 320, 321, 322, 323, 324, 325, 326, 327, 328, 329, 330, 331, 332, 333, 334, 335, 336, 337, 338, 339, 340, 341, 342] (by decide +kernel) (by decide +kernel)
set_option maxRecDepth 20000 in
theorem gg_wsL_areAlike_r14 : GoodIn wsL_law wsL_areAlike_r14 := goodIn_r _ [343, 344, 345, 346, 347, 348, 349, 350, 351, 352, 353, 354, 355, 356, 357, 358, 359, 360, 56, 57, 58, 59] (by decide +kernel) (by decide +kernel)
set_option maxRecDepth 20000 in
theorem ggL_law_L_areAlike : GoodIn wsL_law wsL_areAlike := goodIn_c8 ggh_areAlike (goodIn_app (goodIn_app (goodIn_app (goodIn_app (goodIn_app (goodIn_app (goodIn_app (goodIn_app (goodIn_app gg_wsL_areAlike_r1 (goodIn_app gg_wsL_areAlike_r2 (goodIn_app gg_wsL_areAlike_r3 (goodIn_app gg_wsL_areAlike_r4 (goodIn_app gg_wsL_areAlike_r5 (goodIn_app gg_wsL_areAlike_r6 (goodIn_app gg_wsL_areAlike_r7 (goodIn_app gg_wsL_areAlike_r8 (goodIn_app gg_wsL_areAlike_r9 (goodIn_app gg_wsL_areAlike_r10 (goodIn_app gg_wsL_areAlike_r11 (goodIn_app gg_wsL_areAlike_r12 (goodIn_app gg_wsL_areAlike_r13 (gg_wsL_areAlike_r14)))))))))))))) ggx7) ggx5) ggx6) ggx2) ggx1) (goodIn_sub (fun _ h => List.mem_append_left _ (List.mem_append_left _ (List.mem_append_right _ h))) (by decide +kernel))) (goodIn_sub (fun _ h => List.mem_append_left _ (List.mem_append_right _ h)) (by decide +kernel))) (goodIn_sub (fun _ h => List.mem_append_right _ h) (by decide +kernel)))
set_option maxRecDepth 20000 in
theorem gL_law_L_areAlike : GoodIn wsL_law (va_wsS RL 144 yL_areAlike wsL_areAlike) := goodIn_app (goodIn_of _ (by decide +kernel)) ggL_law_L_areAlike

