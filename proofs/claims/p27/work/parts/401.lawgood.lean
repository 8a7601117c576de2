theorem goodIn_c7 {big a : List Cond} {w : Cond} (h1 : GoodIn big [w]) (h2 : GoodIn big a) : GoodIn big (w :: a) := fun x hx => by
  rcases List.mem_cons.mp hx with rfl | hx
  · exact h1 x List.mem_cons_self
  · exact h2 x hx
theorem gh_L_does_L_made : GoodIn wsL_does [Cond.code yL_made cL_made 4 (some .int)] := goodIn_r _ [8] (by decide +kernel) (by decide +kernel)
set_option maxRecDepth 20000 in
theorem gq_L_does_L_made_r1 : GoodIn wsL_does wsL_made_r1 := goodIn_r _ [9, 10, 11, 12, 13, 14, 15, 16, 17, 18, 19, 20, 21, 22, 23, 24, 25, 26, 27, 28, 29, 30, 31, 32] (by decide +kernel) (by decide +kernel)
set_option maxRecDepth 20000 in
theorem gq_L_does_L_made_r2 : GoodIn wsL_does wsL_made_r2 := goodIn_r _ [33, 34, 35, 36, 37, 38, 39, 40, 41, 42, 43, 44, 45, 46, 47, 48, 49, 50, 51, 52, 53, 54, 55, 56] (by decide +kernel) (by decide +kernel)
set_option maxRecDepth 20000 in
theorem gq_L_does_L_made_r3 : GoodIn wsL_does wsL_made_r3 := goodIn_r _ [57, 58, 59, 60, 61, 62, 63, 64, 65, 66, 67, 68, 69, 70, 71, 72, 73, 74, 75, 76, 77, 78, 79, 80] (by decide +kernel) (by decide +kernel)
set_option maxRecDepth 20000 in
theorem gq_L_does_L_made_r4 : GoodIn wsL_does wsL_made_r4 := goodIn_r _ [81, 82, 83, 84, 85, 86, 87, 88, 89, 90, 91, 92, 93, 94, 95, 96, 97, 98, 99, 100, 101, 102, 103, 104] (by decide +kernel) (by decide +kernel)
set_option maxRecDepth 20000 in
theorem gq_L_does_L_made_r5 : GoodIn wsL_does wsL_made_r5 := goodIn_r _ [105, 106, 107, 108, 109, 110, 111, 112, 113, 114, 115, 116, 117, 118, 119, 120, 121, 122, 123, 124, 125, 126, 127, 128] (by decide +kernel) (by decide +kernel)
set_option maxRecDepth 20000 in
theorem gq_L_does_L_made_r6 : GoodIn wsL_does wsL_made_r6 := goodIn_r _ [129, 130, 131, 132, 133, 134, 135, 136, 137, 138, 139, 140, 141, 142, 143, 144, 145, 146, 147, 148, 149, 150, 151, 152] (by decide +kernel) (by decide +kernel)
set_option maxRecDepth 20000 in
theorem gq_L_does_L_made_r7 : GoodIn wsL_does wsL_made_r7 := goodIn_r _ [153, 154, 155, 156, 157, 158, 159, 160, 161, 162, 163, 164, 165, 166, 167, 168, 169, 170, 171, 172, 173, 174, 175, 176] (by decide +kernel) (by decide +kernel)
set_option maxRecDepth 20000 in
theorem gq_L_does_L_made_r8 : GoodIn wsL_does wsL_made_r8 := goodIn_r _ [177, 178, 179, 180, 181, 182, 183, 184, 185, 186, 187, 188, 189, 190, 191, 192, 193, 194, 195, 196, 197, 198, 199, 200] (by decide +kernel) (by decide +kernel)
set_option maxRecDepth 20000 in
theorem gq_L_does_L_made_r9 : GoodIn wsL_does wsL_made_r9 := goodIn_r _ [201, 202, 203, 204, 205, 206, 207, 208, 209, 210] (by decide +kernel) (by decide +kernel)
set_option maxRecDepth 20000 in
theorem gq_L_does_X50 : GoodIn wsL_does wsX50 := goodIn_r _ [324, 325, 326, 327, 328, 329, 330, 331] (by decide +kernel) (by decide +kernel)
set_option maxRecDepth 20000 in
theorem gq_L_does_X70 : GoodIn wsL_does wsX70 := goodIn_r _ [332, 333, 334, 335, 336, 337, 338, 339] (by decide +kernel) (by decide +kernel)
set_option maxRecDepth 20000 in
theorem gq_L_does_X60 : GoodIn wsL_does wsX60 := goodIn_r _ [340, 341, 342] (by decide +kernel) (by decide +kernel)
set_option maxRecDepth 20000 in
theorem gq_L_does_X20 : GoodIn wsL_does wsX20 := goodIn_r _ [343, 344, 345] (by decide +kernel) (by decide +kernel)
set_option maxRecDepth 20000 in
theorem ggL_does_L_made : GoodIn wsL_does wsL_made := (goodIn_c7 gh_L_does_L_made (goodIn_app (goodIn_app (goodIn_app (goodIn_app (goodIn_app (goodIn_app (goodIn_app (goodIn_app gq_L_does_L_made_r1 (goodIn_app gq_L_does_L_made_r2 (goodIn_app gq_L_does_L_made_r3 (goodIn_app gq_L_does_L_made_r4 (goodIn_app gq_L_does_L_made_r5 (goodIn_app gq_L_does_L_made_r6 (goodIn_app gq_L_does_L_made_r7 (goodIn_app gq_L_does_L_made_r8 gq_L_does_L_made_r9)))))))) gq_L_does_X50) gq_L_does_X70) gq_L_does_X60) gq_L_does_X20) (goodIn_sub (fun _ h => List.mem_cons_of_mem _ (List.mem_append_left _ (List.mem_append_left _ (List.mem_append_right _ h)))) (by decide +kernel))) (goodIn_sub (fun _ h => List.mem_cons_of_mem _ (List.mem_append_left _ (List.mem_append_right _ h))) (by decide +kernel))) (goodIn_sub (fun _ h => List.mem_cons_of_mem _ (List.mem_append_right _ h)) (by decide +kernel))))
set_option maxRecDepth 20000 in
theorem gL_does_L_made : GoodIn wsL_does (va_wsS RL 8 yL_made wsL_made) := goodIn_app (goodIn_of _ (by decide +kernel)) ggL_does_L_made
theorem gh_L_does_X7_raw : GoodIn wsL_does [Cond.code yX7_raw cX7_raw 5 (some .long)] := goodIn_r _ [214] (by decide +kernel) (by decide +kernel)
set_option maxRecDepth 20000 in
theorem gq_L_does_X7_raw_r1 : GoodIn wsL_does wsX7_raw_r1 := goodIn_r _ [19, 18, 137, 138, 139, 12, 140, 141, 142, 31, 32, 20, 21, 22, 23, 24, 107, 108, 109, 49, 110, 61, 59, 62] (by decide +kernel) (by decide +kernel)
set_option maxRecDepth 20000 in
theorem gq_L_does_X7_raw_r2 : GoodIn wsL_does wsX7_raw_r2 := goodIn_r _ [111, 90, 91, 79, 92, 81, 82, 83, 112, 77, 78, 80, 215, 216, 217, 218, 29, 30, 147, 150, 149] (by decide +kernel) (by decide +kernel)
set_option maxRecDepth 20000 in
theorem ggL_does_X7_raw : GoodIn wsL_does wsX7_raw := (goodIn_c7 gh_L_does_X7_raw (goodIn_app (goodIn_app (goodIn_app (goodIn_app (goodIn_app (goodIn_app (goodIn_app (goodIn_app gq_L_does_X7_raw_r1 gq_L_does_X7_raw_r2) gq_L_does_X50) gq_L_does_X70) gq_L_does_X60) gq_L_does_X20) (goodIn_sub (fun _ h => List.mem_cons_of_mem _ (List.mem_append_right _ h)) (by decide +kernel))) (goodIn_sub (fun _ h => List.mem_cons_of_mem _ (List.mem_append_left _ (List.mem_append_left _ (List.mem_append_right _ h)))) (by decide +kernel))) (goodIn_sub (fun _ h => List.mem_cons_of_mem _ (List.mem_append_left _ (List.mem_append_right _ h))) (by decide +kernel))))
set_option maxRecDepth 20000 in
theorem gL_does_X7_raw : GoodIn wsL_does (wsV RL 14 RX7 yX7_raw wsX7_raw) := goodIn_app (goodIn_of _ (by decide +kernel)) ggL_does_X7_raw
theorem gh_L_does_X7_told : GoodIn wsL_does [Cond.code yX7_told cX7_told 4 (some .long)] := goodIn_r _ [222] (by decide +kernel) (by decide +kernel)
set_option maxRecDepth 20000 in
theorem gq_L_does_X7_told_r1 : GoodIn wsL_does wsX7_told_r1 := goodIn_r _ [223, 224, 225, 12, 226, 105, 18, 137, 138, 139, 140, 141, 142, 31, 32, 20, 21, 22, 23, 24, 107, 108, 109, 49] (by decide +kernel) (by decide +kernel)
set_option maxRecDepth 20000 in
theorem gq_L_does_X7_told_r2 : GoodIn wsL_does wsX7_told_r2 := goodIn_r _ [110, 61, 59, 62, 111, 90, 91, 79, 92, 81, 82, 83, 112, 77, 78, 80, 215, 216, 217, 218, 29, 30, 147, 150] (by decide +kernel) (by decide +kernel)
set_option maxRecDepth 20000 in
theorem gq_L_does_X7_told_r3 : GoodIn wsL_does wsX7_told_r3 := goodIn_r _ [149] (by decide +kernel) (by decide +kernel)
set_option maxRecDepth 20000 in
theorem ggL_does_X7_told : GoodIn wsL_does wsX7_told := (goodIn_c7 gh_L_does_X7_told (goodIn_app (goodIn_app (goodIn_app (goodIn_app (goodIn_app (goodIn_app (goodIn_app (goodIn_app gq_L_does_X7_told_r1 (goodIn_app gq_L_does_X7_told_r2 gq_L_does_X7_told_r3)) gq_L_does_X50) gq_L_does_X70) gq_L_does_X60) gq_L_does_X20) (goodIn_sub (fun _ h => List.mem_cons_of_mem _ (List.mem_append_right _ h)) (by decide +kernel))) (goodIn_sub (fun _ h => List.mem_cons_of_mem _ (List.mem_append_left _ (List.mem_append_left _ (List.mem_append_right _ h)))) (by decide +kernel))) (goodIn_sub (fun _ h => List.mem_cons_of_mem _ (List.mem_append_left _ (List.mem_append_right _ h))) (by decide +kernel))))
set_option maxRecDepth 20000 in
theorem gL_does_X7_told : GoodIn wsL_does (wsV RL 20 RX7 yX7_told wsX7_told) := goodIn_app (goodIn_of _ (by decide +kernel)) ggL_does_X7_told
theorem gh_L_does_X7_place : GoodIn wsL_does [Cond.code yX7_place cX7_place 5 (some .int)] := goodIn_r _ [230] (by decide +kernel) (by decide +kernel)
set_option maxRecDepth 20000 in
theorem gq_L_does_X7_place_r1 : GoodIn wsL_does wsX7_place_r1 := goodIn_r _ [105, 18, 147, 150, 149, 137, 138, 139, 12, 140, 141, 142, 31, 32, 20, 21, 22, 23, 24, 107, 108, 109, 49, 110] (by decide +kernel) (by decide +kernel)
set_option maxRecDepth 20000 in
theorem gq_L_does_X7_place_r2 : GoodIn wsL_does wsX7_place_r2 := goodIn_r _ [61, 59, 62, 111, 90, 91, 79, 92, 81, 82, 83, 112, 77, 78, 80, 63, 64, 65] (by decide +kernel) (by decide +kernel)
set_option maxRecDepth 20000 in
theorem ggL_does_X7_place : GoodIn wsL_does wsX7_place := (goodIn_c7 gh_L_does_X7_place (goodIn_app (goodIn_app (goodIn_app (goodIn_app (goodIn_app (goodIn_app (goodIn_app gq_L_does_X7_place_r1 gq_L_does_X7_place_r2) gq_L_does_X50) gq_L_does_X70) gq_L_does_X20) gq_L_does_X60) (goodIn_sub (fun _ h => List.mem_cons_of_mem _ (List.mem_append_right _ h)) (by decide +kernel))) (goodIn_sub (fun _ h => List.mem_cons_of_mem _ (List.mem_append_left _ (List.mem_append_left _ (List.mem_append_right _ h)))) (by decide +kernel))))
set_option maxRecDepth 20000 in
theorem gL_does_X7_place : GoodIn wsL_does (wsV RL 23 RX7 yX7_place wsX7_place) := goodIn_app (goodIn_of _ (by decide +kernel)) ggL_does_X7_place
theorem gh_L_does_X7_compare : GoodIn wsL_does [Cond.code yX7_compare cX7_compare 6 (some .int)] := goodIn_r _ [234] (by decide +kernel) (by decide +kernel)
set_option maxRecDepth 20000 in
theorem gq_L_does_X7_compare_r1 : GoodIn wsL_does wsX7_compare_r1 := goodIn_r _ [137, 138, 139, 12, 140, 141, 142, 31, 32, 20, 21, 22, 23, 24, 235, 236, 237, 238, 105, 104, 136, 147, 150, 149] (by decide +kernel) (by decide +kernel)
set_option maxRecDepth 20000 in
theorem gq_L_does_X7_compare_r2 : GoodIn wsL_does wsX7_compare_r2 := goodIn_r _ [107, 108, 109, 49, 110, 61, 59, 62, 111, 90, 91, 79, 92, 81, 82, 83, 112, 77, 78, 80] (by decide +kernel) (by decide +kernel)
set_option maxRecDepth 20000 in
theorem ggL_does_X7_compare : GoodIn wsL_does wsX7_compare := (goodIn_c7 gh_L_does_X7_compare (goodIn_app (goodIn_app (goodIn_app (goodIn_app (goodIn_app (goodIn_app (goodIn_app gq_L_does_X7_compare_r1 gq_L_does_X7_compare_r2) gq_L_does_X70) gq_L_does_X50) gq_L_does_X20) gq_L_does_X60) (goodIn_sub (fun _ h => List.mem_cons_of_mem _ (List.mem_append_right _ h)) (by decide +kernel))) (goodIn_sub (fun _ h => List.mem_cons_of_mem _ (List.mem_append_left _ (List.mem_append_left _ (List.mem_append_right _ h)))) (by decide +kernel))))
set_option maxRecDepth 20000 in
theorem gL_does_X7_compare : GoodIn wsL_does (wsV RL 27 RX7 yX7_compare wsX7_compare) := goodIn_app (goodIn_of _ (by decide +kernel)) ggL_does_X7_compare
theorem gh_L_does_X7_decided : GoodIn wsL_does [Cond.code yX7_decided cX7_decided 6 (some .int)] := goodIn_r _ [242] (by decide +kernel) (by decide +kernel)
set_option maxRecDepth 20000 in
theorem gq_L_does_X7_decided_r1 : GoodIn wsL_does wsX7_decided_r1 := goodIn_r _ [137, 138, 139, 12, 140, 141, 142, 31, 32, 235, 236, 237, 238, 105, 104, 136, 147, 150, 149, 107, 108, 109, 49, 110] (by decide +kernel) (by decide +kernel)
set_option maxRecDepth 20000 in
theorem gq_L_does_X7_decided_r2 : GoodIn wsL_does wsX7_decided_r2 := goodIn_r _ [61, 59, 62, 111, 90, 91, 79, 92, 81, 82, 83, 112, 77, 78, 80] (by decide +kernel) (by decide +kernel)
set_option maxRecDepth 20000 in
theorem ggL_does_X7_decided : GoodIn wsL_does wsX7_decided := (goodIn_c7 gh_L_does_X7_decided (goodIn_app (goodIn_app (goodIn_app (goodIn_app (goodIn_app (goodIn_app gq_L_does_X7_decided_r1 gq_L_does_X7_decided_r2) gq_L_does_X70) gq_L_does_X50) gq_L_does_X20) gq_L_does_X60) (goodIn_sub (fun _ h => List.mem_cons_of_mem _ (List.mem_append_right _ h)) (by decide +kernel))))
set_option maxRecDepth 20000 in
theorem gL_does_X7_decided : GoodIn wsL_does (wsV RL 31 RX7 yX7_decided wsX7_decided) := goodIn_app (goodIn_of _ (by decide +kernel)) ggL_does_X7_decided
theorem gh_L_does_X7_decimals : GoodIn wsL_does [Cond.code yX7_decimals cX7_decimals 3 (some .int)] := goodIn_r _ [246] (by decide +kernel) (by decide +kernel)
set_option maxRecDepth 20000 in
theorem gq_L_does_X7_decimals_r1 : GoodIn wsL_does wsX7_decimals_r1 := goodIn_r _ [223, 224, 225, 12, 226, 105, 18, 137, 138, 139, 140, 141, 142, 31, 32, 20, 21, 22, 23, 24, 107, 108, 109, 49] (by decide +kernel) (by decide +kernel)
set_option maxRecDepth 20000 in
theorem gq_L_does_X7_decimals_r2 : GoodIn wsL_does wsX7_decimals_r2 := goodIn_r _ [110, 61, 59, 62, 111, 90, 91, 79, 92, 81, 82, 83, 112, 77, 78, 80, 247, 248, 249, 250, 147, 149, 150, 251] (by decide +kernel) (by decide +kernel)
set_option maxRecDepth 20000 in
theorem gq_L_does_X7_decimals_r3 : GoodIn wsL_does wsX7_decimals_r3 := goodIn_r _ [252, 253, 254, 63, 64, 65, 66, 67, 68, 69, 70, 71, 72] (by decide +kernel) (by decide +kernel)
set_option maxRecDepth 20000 in
theorem ggL_does_X7_decimals : GoodIn wsL_does wsX7_decimals := (goodIn_c7 gh_L_does_X7_decimals (goodIn_app (goodIn_app (goodIn_app (goodIn_app (goodIn_app (goodIn_app (goodIn_app gq_L_does_X7_decimals_r1 (goodIn_app gq_L_does_X7_decimals_r2 gq_L_does_X7_decimals_r3)) gq_L_does_X50) gq_L_does_X70) gq_L_does_X60) gq_L_does_X20) (goodIn_sub (fun _ h => List.mem_cons_of_mem _ (List.mem_append_right _ h)) (by decide +kernel))) (goodIn_sub (fun _ h => List.mem_cons_of_mem _ (List.mem_append_left _ (List.mem_append_left _ (List.mem_append_right _ h)))) (by decide +kernel))))
set_option maxRecDepth 20000 in
theorem gL_does_X7_decimals : GoodIn wsL_does (wsV RL 34 RX7 yX7_decimals wsX7_decimals) := goodIn_app (goodIn_of _ (by decide +kernel)) ggL_does_X7_decimals
theorem gh_L_does_X7_decimal : GoodIn wsL_does [Cond.code yX7_decimal cX7_decimal 6 (some .int)] := goodIn_r _ [258] (by decide +kernel) (by decide +kernel)
set_option maxRecDepth 20000 in
theorem gq_L_does_X7_decimal_r1 : GoodIn wsL_does wsX7_decimal_r1 := goodIn_r _ [29, 30, 18, 149, 259, 223, 224, 225, 12, 226, 105, 137, 138, 139, 140, 141, 142, 31, 32, 20, 21, 22, 23, 24] (by decide +kernel) (by decide +kernel)
set_option maxRecDepth 20000 in
theorem gq_L_does_X7_decimal_r2 : GoodIn wsL_does wsX7_decimal_r2 := goodIn_r _ [107, 108, 109, 49, 110, 61, 59, 62, 111, 90, 91, 79, 92, 81, 82, 83, 112, 77, 78, 80, 247, 248, 249, 250] (by decide +kernel) (by decide +kernel)
set_option maxRecDepth 20000 in
theorem gq_L_does_X7_decimal_r3 : GoodIn wsL_does wsX7_decimal_r3 := goodIn_r _ [147, 150, 251, 252, 253, 254, 63, 64, 65, 66, 67, 68, 69, 70, 71, 72, 260, 261, 262] (by decide +kernel) (by decide +kernel)
set_option maxRecDepth 20000 in
theorem ggL_does_X7_decimal : GoodIn wsL_does wsX7_decimal := (goodIn_c7 gh_L_does_X7_decimal (goodIn_app (goodIn_app (goodIn_app (goodIn_app (goodIn_app (goodIn_app (goodIn_app (goodIn_app gq_L_does_X7_decimal_r1 (goodIn_app gq_L_does_X7_decimal_r2 gq_L_does_X7_decimal_r3)) gq_L_does_X70) gq_L_does_X20) gq_L_does_X50) gq_L_does_X60) (goodIn_sub (fun _ h => List.mem_cons_of_mem _ (List.mem_append_left _ (List.mem_append_right _ h))) (by decide +kernel))) (goodIn_sub (fun _ h => List.mem_cons_of_mem _ (List.mem_append_right _ h)) (by decide +kernel))) (goodIn_sub (fun _ h => List.mem_cons_of_mem _ (List.mem_append_left _ (List.mem_append_left _ (List.mem_append_right _ h)))) (by decide +kernel))))
set_option maxRecDepth 20000 in
theorem gL_does_X7_decimal : GoodIn wsL_does (wsV RL 37 RX7 yX7_decimal wsX7_decimal) := goodIn_app (goodIn_of _ (by decide +kernel)) ggL_does_X7_decimal
theorem gh_L_does_X7_quotient : GoodIn wsL_does [Cond.code yX7_quotient cX7_quotient 5 (some .int)] := goodIn_r _ [266] (by decide +kernel) (by decide +kernel)
set_option maxRecDepth 20000 in
theorem gq_L_does_X7_quotient_r1 : GoodIn wsL_does wsX7_quotient_r1 := goodIn_r _ [29, 30, 18, 147, 267, 149, 268, 150, 223, 224, 225, 12, 226, 105, 137, 138, 139, 140, 141, 142, 31, 32, 20, 21] (by decide +kernel) (by decide +kernel)
set_option maxRecDepth 20000 in
theorem gq_L_does_X7_quotient_r2 : GoodIn wsL_does wsX7_quotient_r2 := goodIn_r _ [22, 23, 24, 107, 108, 109, 49, 110, 61, 59, 62, 111, 90, 91, 79, 92, 81, 82, 83, 112, 77, 78, 80, 63] (by decide +kernel) (by decide +kernel)
set_option maxRecDepth 20000 in
theorem gq_L_does_X7_quotient_r3 : GoodIn wsL_does wsX7_quotient_r3 := goodIn_r _ [64, 65, 269, 270, 271, 272, 273, 274, 275, 276, 277, 278, 279, 280, 281, 282, 283, 284, 67, 68, 69, 70, 71, 72] (by decide +kernel) (by decide +kernel)
set_option maxRecDepth 20000 in
theorem gq_L_does_X7_quotient_r4 : GoodIn wsL_does wsX7_quotient_r4 := goodIn_r _ [285, 286, 287, 288, 289] (by decide +kernel) (by decide +kernel)
set_option maxRecDepth 20000 in
theorem gq_L_does_X10 : GoodIn wsL_does wsX10 := goodIn_r _ [346, 347] (by decide +kernel) (by decide +kernel)
set_option maxRecDepth 20000 in
theorem ggL_does_X7_quotient : GoodIn wsL_does wsX7_quotient := (goodIn_c7 gh_L_does_X7_quotient (goodIn_app (goodIn_app (goodIn_app (goodIn_app (goodIn_app (goodIn_app (goodIn_app (goodIn_app (goodIn_app gq_L_does_X7_quotient_r1 (goodIn_app gq_L_does_X7_quotient_r2 (goodIn_app gq_L_does_X7_quotient_r3 gq_L_does_X7_quotient_r4))) gq_L_does_X70) gq_L_does_X20) gq_L_does_X50) gq_L_does_X60) gq_L_does_X10) (goodIn_sub (fun _ h => List.mem_cons_of_mem _ (List.mem_append_left _ (List.mem_append_right _ h))) (by decide +kernel))) (goodIn_sub (fun _ h => List.mem_cons_of_mem _ (List.mem_append_right _ h)) (by decide +kernel))) (goodIn_sub (fun _ h => List.mem_cons_of_mem _ (List.mem_append_left _ (List.mem_append_left _ (List.mem_append_right _ h)))) (by decide +kernel))))
set_option maxRecDepth 20000 in
theorem gL_does_X7_quotient : GoodIn wsL_does (wsV RL 40 RX7 yX7_quotient wsX7_quotient) := goodIn_app (goodIn_of _ (by decide +kernel)) ggL_does_X7_quotient
theorem gh_L_does_X7_next : GoodIn wsL_does [Cond.code yX7_next cX7_next 5 (some .int)] := goodIn_r _ [293] (by decide +kernel) (by decide +kernel)
set_option maxRecDepth 20000 in
theorem gq_L_does_X7_next_r1 : GoodIn wsL_does wsX7_next_r1 := goodIn_r _ [29, 30, 294, 295, 296, 137, 138, 139, 12, 140, 141, 142, 31, 32, 297, 298, 299, 300, 105, 18, 147, 149, 150, 107] (by decide +kernel) (by decide +kernel)
set_option maxRecDepth 20000 in
theorem gq_L_does_X7_next_r2 : GoodIn wsL_does wsX7_next_r2 := goodIn_r _ [108, 109, 49, 110, 61, 59, 62, 111, 90, 91, 79, 92, 81, 82, 83, 112, 77, 78, 80, 63, 64, 65] (by decide +kernel) (by decide +kernel)
set_option maxRecDepth 20000 in
theorem ggL_does_X7_next : GoodIn wsL_does wsX7_next := (goodIn_c7 gh_L_does_X7_next (goodIn_app (goodIn_app (goodIn_app (goodIn_app (goodIn_app (goodIn_app (goodIn_app gq_L_does_X7_next_r1 gq_L_does_X7_next_r2) gq_L_does_X50) gq_L_does_X70) gq_L_does_X20) gq_L_does_X60) (goodIn_sub (fun _ h => List.mem_cons_of_mem _ (List.mem_append_left _ (List.mem_append_right _ h))) (by decide +kernel))) (goodIn_sub (fun _ h => List.mem_cons_of_mem _ (List.mem_append_right _ h)) (by decide +kernel))))
set_option maxRecDepth 20000 in
theorem gL_does_X7_next : GoodIn wsL_does (wsV RL 43 RX7 yX7_next wsX7_next) := goodIn_app (goodIn_of _ (by decide +kernel)) ggL_does_X7_next
set_option maxRecDepth 20000 in
theorem ggL_does_X7_emitted : GoodIn wsL_does wsX7_emitted := goodIn_ca (goodIn_r _ [304, 294, 137, 138, 139, 12, 140, 141, 142, 31, 32, 324, 325, 326, 327, 328, 329, 330, 331, 332, 333, 334, 335, 336, 337, 338, 339] (by decide +kernel) (by decide +kernel)) (goodIn_sub (fun _ h => List.mem_cons_of_mem _ (List.mem_append_right _ h)) (by decide +kernel))
set_option maxRecDepth 20000 in
theorem gL_does_X7_emitted : GoodIn wsL_does (wsV RL 47 RX7 yX7_emitted wsX7_emitted) := goodIn_app (goodIn_of _ (by decide +kernel)) ggL_does_X7_emitted
set_option maxRecDepth 20000 in
theorem ggL_does_X7_partial : GoodIn wsL_does wsX7_partial := goodIn_ca (goodIn_r _ [308, 296, 137, 138, 139, 12, 140, 141, 142, 31, 32, 324, 325, 326, 327, 328, 329, 330, 331, 332, 333, 334, 335, 336, 337, 338, 339] (by decide +kernel) (by decide +kernel)) (goodIn_sub (fun _ h => List.mem_cons_of_mem _ (List.mem_append_right _ h)) (by decide +kernel))
set_option maxRecDepth 20000 in
theorem gL_does_X7_partial : GoodIn wsL_does (wsV RL 50 RX7 yX7_partial wsX7_partial) := goodIn_app (goodIn_of _ (by decide +kernel)) ggL_does_X7_partial
set_option maxRecDepth 20000 in
theorem ggL_does_X7_restart : GoodIn wsL_does wsX7_restart := goodIn_ca (goodIn_r _ [312, 294, 296, 137, 138, 139, 12, 140, 141, 142, 31, 32, 324, 325, 326, 327, 328, 329, 330, 331, 332, 333, 334, 335, 336, 337, 338, 339] (by decide +kernel) (by decide +kernel)) (goodIn_sub (fun _ h => List.mem_cons_of_mem _ (List.mem_append_right _ h)) (by decide +kernel))
set_option maxRecDepth 20000 in
theorem gL_does_X7_restart : GoodIn wsL_does (wsV RL 54 RX7 yX7_restart wsX7_restart) := goodIn_app (goodIn_of _ (by decide +kernel)) ggL_does_X7_restart
set_option maxRecDepth 20000 in
theorem ggL_does_X7_needs : GoodIn wsL_does wsX7_needs := goodIn_ca (goodIn_r _ [316, 135, 137, 138, 139, 12, 140, 141, 142, 31, 32, 317, 318, 319, 320, 321, 322, 323, 324, 325, 326, 327, 328, 329, 330, 331, 332, 333, 334, 335, 336, 337, 338, 339] (by decide +kernel) (by decide +kernel)) (goodIn_sub (fun _ h => List.mem_cons_of_mem _ (List.mem_append_right _ h)) (by decide +kernel))
set_option maxRecDepth 20000 in
theorem gL_does_X7_needs : GoodIn wsL_does (wsV RL 57 RX7 yX7_needs wsX7_needs) := goodIn_app (goodIn_of _ (by decide +kernel)) ggL_does_X7_needs
theorem gh_L_made_X7_ratio : GoodIn wsL_made [Cond.code yX7_ratio cX7_ratio 7 (some .int)] := goodIn_r _ [5] (by decide +kernel) (by decide +kernel)
set_option maxRecDepth 20000 in
theorem gq_L_made_X7_ratio_r1 : GoodIn wsL_made wsX7_ratio_r1 := goodIn_r _ [6, 7, 8, 9, 10, 11, 12, 13, 4, 14, 15, 16, 17, 18, 19, 20, 21, 22, 23, 24, 25, 26, 27, 28] (by decide +kernel) (by decide +kernel)
set_option maxRecDepth 20000 in
theorem gq_L_made_X7_ratio_r2 : GoodIn wsL_made wsX7_ratio_r2 := goodIn_r _ [29, 30, 31, 32, 33, 34, 35, 36, 37, 38, 39, 40, 41, 42, 43, 44, 45, 46, 47, 48, 49, 50, 51, 52] (by decide +kernel) (by decide +kernel)
set_option maxRecDepth 20000 in
theorem gq_L_made_X7_ratio_r3 : GoodIn wsL_made wsX7_ratio_r3 := goodIn_r _ [53, 54, 55, 56, 57, 58, 59, 60, 61, 62, 63, 64, 65, 66, 67, 68, 69, 70, 71, 72, 73, 74, 75, 76] (by decide +kernel) (by decide +kernel)
set_option maxRecDepth 20000 in
theorem gq_L_made_X7_ratio_r4 : GoodIn wsL_made wsX7_ratio_r4 := goodIn_r _ [77, 78, 79, 80, 81, 82, 83, 84, 85, 86, 87, 88, 89, 90, 91, 92, 93, 94, 95, 96, 97, 98, 99, 100] (by decide +kernel) (by decide +kernel)
set_option maxRecDepth 20000 in
theorem gq_L_made_X7_ratio_r5 : GoodIn wsL_made wsX7_ratio_r5 := goodIn_r _ [101, 102, 103, 104, 105, 106, 107, 108, 109, 110, 111, 112, 113, 114, 115, 116, 117] (by decide +kernel) (by decide +kernel)
set_option maxRecDepth 20000 in
theorem gq_L_made_X50 : GoodIn wsL_made wsX50 := goodIn_r _ [203, 204, 205, 206, 207, 208, 209, 210] (by decide +kernel) (by decide +kernel)
set_option maxRecDepth 20000 in
theorem gq_L_made_X70 : GoodIn wsL_made wsX70 := goodIn_r _ [211, 212, 213, 214, 215, 216, 217, 218] (by decide +kernel) (by decide +kernel)
set_option maxRecDepth 20000 in
theorem gq_L_made_X60 : GoodIn wsL_made wsX60 := goodIn_r _ [219, 220, 221] (by decide +kernel) (by decide +kernel)
set_option maxRecDepth 20000 in
theorem gq_L_made_X20 : GoodIn wsL_made wsX20 := goodIn_r _ [222, 223, 224] (by decide +kernel) (by decide +kernel)
set_option maxRecDepth 20000 in
theorem ggL_made_X7_ratio : GoodIn wsL_made wsX7_ratio := (goodIn_c7 gh_L_made_X7_ratio (goodIn_app (goodIn_app (goodIn_app (goodIn_app (goodIn_app (goodIn_app (goodIn_app gq_L_made_X7_ratio_r1 (goodIn_app gq_L_made_X7_ratio_r2 (goodIn_app gq_L_made_X7_ratio_r3 (goodIn_app gq_L_made_X7_ratio_r4 gq_L_made_X7_ratio_r5)))) gq_L_made_X50) gq_L_made_X70) gq_L_made_X60) gq_L_made_X20) (goodIn_sub (fun _ h => List.mem_cons_of_mem _ (List.mem_append_left _ (List.mem_append_left _ (List.mem_append_right _ h)))) (by decide +kernel))) (goodIn_sub (fun _ h => List.mem_cons_of_mem _ (List.mem_append_left _ (List.mem_append_right _ h))) (by decide +kernel))))
set_option maxRecDepth 20000 in
theorem gL_made_X7_ratio : GoodIn wsL_made (wsV RL 68 RX7 yX7_ratio wsX7_ratio) := goodIn_app (goodIn_of _ (by decide +kernel)) ggL_made_X7_ratio
theorem gh_L_made_X7_sum : GoodIn wsL_made [Cond.code yX7_sum cX7_sum 3 (some .int)] := goodIn_r _ [121] (by decide +kernel) (by decide +kernel)
set_option maxRecDepth 20000 in
theorem gq_L_made_X7_sum_r1 : GoodIn wsL_made wsX7_sum_r1 := goodIn_r _ [122, 123, 124, 125, 4, 126, 6, 7, 8, 127, 11, 96, 128, 10, 129, 130, 131, 132, 133, 134, 23, 24, 17, 18] (by decide +kernel) (by decide +kernel)
set_option maxRecDepth 20000 in
theorem gq_L_made_X7_sum_r2 : GoodIn wsL_made wsX7_sum_r2 := goodIn_r _ [19, 20, 21, 22, 25, 26, 27, 28, 29, 30, 31, 32, 33, 34, 35, 36, 37, 38, 39, 40, 41, 42, 43, 44] (by decide +kernel) (by decide +kernel)
set_option maxRecDepth 20000 in
theorem gq_L_made_X7_sum_r3 : GoodIn wsL_made wsX7_sum_r3 := goodIn_r _ [45, 46, 47, 48, 49, 50, 51, 52, 53, 54, 99, 100, 101, 102, 103, 82, 83, 71, 84, 73, 74, 75, 104, 69] (by decide +kernel) (by decide +kernel)
set_option maxRecDepth 20000 in
theorem gq_L_made_X7_sum_r4 : GoodIn wsL_made wsX7_sum_r4 := goodIn_r _ [70, 72, 135, 136, 137, 138, 139, 140, 141, 142, 143, 111, 112, 113, 98, 144, 145, 146, 147, 148, 149, 150, 68, 151] (by decide +kernel) (by decide +kernel)
set_option maxRecDepth 20000 in
theorem gq_L_made_X7_sum_r5 : GoodIn wsL_made wsX7_sum_r5 := goodIn_r _ [152, 153, 154, 114, 115, 116, 110, 56, 57, 59, 60, 61, 62, 63, 64, 66, 67, 117, 155, 156, 157, 158, 81, 159] (by decide +kernel) (by decide +kernel)
set_option maxRecDepth 20000 in
theorem gq_L_made_X7_sum_r6 : GoodIn wsL_made wsX7_sum_r6 := goodIn_r _ [160, 161, 162, 163, 164, 165, 166, 167, 168, 169, 170, 171, 172, 76, 77, 78, 79, 80, 85, 86, 87, 88, 89, 90] (by decide +kernel) (by decide +kernel)
set_option maxRecDepth 20000 in
theorem gq_L_made_X7_sum_r7 : GoodIn wsL_made wsX7_sum_r7 := goodIn_r _ [91, 92, 93, 94, 95, 97, 105, 106, 107, 108, 109] (by decide +kernel) (by decide +kernel)
set_option maxRecDepth 20000 in
theorem ggL_made_X7_sum : GoodIn wsL_made wsX7_sum := (goodIn_c7 gh_L_made_X7_sum (goodIn_app (goodIn_app (goodIn_app (goodIn_app (goodIn_app (goodIn_app (goodIn_app gq_L_made_X7_sum_r1 (goodIn_app gq_L_made_X7_sum_r2 (goodIn_app gq_L_made_X7_sum_r3 (goodIn_app gq_L_made_X7_sum_r4 (goodIn_app gq_L_made_X7_sum_r5 (goodIn_app gq_L_made_X7_sum_r6 gq_L_made_X7_sum_r7)))))) gq_L_made_X50) gq_L_made_X70) gq_L_made_X60) gq_L_made_X20) (goodIn_sub (fun _ h => List.mem_cons_of_mem _ (List.mem_append_right _ h)) (by decide +kernel))) (goodIn_sub (fun _ h => List.mem_cons_of_mem _ (List.mem_append_left _ (List.mem_append_right _ h))) (by decide +kernel))))
set_option maxRecDepth 20000 in
theorem gL_made_X7_sum : GoodIn wsL_made (wsV RL 71 RX7 yX7_sum wsX7_sum) := goodIn_app (goodIn_of _ (by decide +kernel)) ggL_made_X7_sum
theorem gh_L_made_X7_difference : GoodIn wsL_made [Cond.code yX7_difference cX7_difference 3 (some .int)] := goodIn_r _ [176] (by decide +kernel) (by decide +kernel)
set_option maxRecDepth 20000 in
theorem gq_L_made_X7_difference_r1 : GoodIn wsL_made wsX7_difference_r1 := goodIn_r _ [177, 123, 124, 125, 4, 126, 6, 7, 8, 127, 11, 96, 128, 10, 129, 130, 131, 132, 133, 134, 23, 24, 17, 18] (by decide +kernel) (by decide +kernel)
set_option maxRecDepth 20000 in
theorem gq_L_made_X7_difference_r2 : GoodIn wsL_made wsX7_difference_r2 := goodIn_r _ [19, 20, 21, 22, 25, 26, 27, 28, 29, 30, 31, 32, 33, 34, 35, 36, 37, 38, 39, 40, 41, 42, 43, 44] (by decide +kernel) (by decide +kernel)
set_option maxRecDepth 20000 in
theorem gq_L_made_X7_difference_r3 : GoodIn wsL_made wsX7_difference_r3 := goodIn_r _ [45, 46, 47, 48, 49, 50, 51, 52, 53, 54, 99, 100, 101, 102, 103, 82, 83, 71, 84, 73, 74, 75, 104, 69] (by decide +kernel) (by decide +kernel)
set_option maxRecDepth 20000 in
theorem gq_L_made_X7_difference_r4 : GoodIn wsL_made wsX7_difference_r4 := goodIn_r _ [70, 72, 135, 136, 137, 138, 139, 140, 141, 142, 143, 111, 112, 113, 98, 144, 145, 146, 147, 148, 149, 150, 68, 151] (by decide +kernel) (by decide +kernel)
set_option maxRecDepth 20000 in
theorem gq_L_made_X7_difference_r5 : GoodIn wsL_made wsX7_difference_r5 := goodIn_r _ [152, 153, 154, 114, 115, 116, 110, 56, 57, 59, 60, 61, 62, 63, 64, 66, 67, 117, 155, 156, 157, 158, 81, 159] (by decide +kernel) (by decide +kernel)
set_option maxRecDepth 20000 in
theorem gq_L_made_X7_difference_r6 : GoodIn wsL_made wsX7_difference_r6 := goodIn_r _ [160, 161, 162, 163, 164, 165, 166, 167, 168, 169, 170, 171, 172, 76, 77, 78, 79, 80, 85, 86, 87, 88, 89, 90] (by decide +kernel) (by decide +kernel)
set_option maxRecDepth 20000 in
theorem gq_L_made_X7_difference_r7 : GoodIn wsL_made wsX7_difference_r7 := goodIn_r _ [91, 92, 93, 94, 95, 97, 105, 106, 107, 108, 109] (by decide +kernel) (by decide +kernel)
set_option maxRecDepth 20000 in
theorem ggL_made_X7_difference : GoodIn wsL_made wsX7_difference := (goodIn_c7 gh_L_made_X7_difference (goodIn_app (goodIn_app (goodIn_app (goodIn_app (goodIn_app (goodIn_app (goodIn_app gq_L_made_X7_difference_r1 (goodIn_app gq_L_made_X7_difference_r2 (goodIn_app gq_L_made_X7_difference_r3 (goodIn_app gq_L_made_X7_difference_r4 (goodIn_app gq_L_made_X7_difference_r5 (goodIn_app gq_L_made_X7_difference_r6 gq_L_made_X7_difference_r7)))))) gq_L_made_X50) gq_L_made_X70) gq_L_made_X60) gq_L_made_X20) (goodIn_sub (fun _ h => List.mem_cons_of_mem _ (List.mem_append_right _ h)) (by decide +kernel))) (goodIn_sub (fun _ h => List.mem_cons_of_mem _ (List.mem_append_left _ (List.mem_append_right _ h))) (by decide +kernel))))
set_option maxRecDepth 20000 in
theorem gL_made_X7_difference : GoodIn wsL_made (wsV RL 74 RX7 yX7_difference wsX7_difference) := goodIn_app (goodIn_of _ (by decide +kernel)) ggL_made_X7_difference
theorem gh_L_made_X7_product : GoodIn wsL_made [Cond.code yX7_product cX7_product 3 (some .int)] := goodIn_r _ [181] (by decide +kernel) (by decide +kernel)
set_option maxRecDepth 20000 in
theorem gq_L_made_X7_product_r1 : GoodIn wsL_made wsX7_product_r1 := goodIn_r _ [182, 123, 124, 125, 4, 126, 6, 7, 8, 127, 11, 96, 128, 10, 129, 130, 131, 132, 133, 134, 23, 24, 17, 18] (by decide +kernel) (by decide +kernel)
set_option maxRecDepth 20000 in
theorem gq_L_made_X7_product_r2 : GoodIn wsL_made wsX7_product_r2 := goodIn_r _ [19, 20, 21, 22, 25, 26, 27, 28, 29, 30, 31, 32, 33, 34, 35, 36, 37, 38, 39, 40, 41, 42, 43, 44] (by decide +kernel) (by decide +kernel)
set_option maxRecDepth 20000 in
theorem gq_L_made_X7_product_r3 : GoodIn wsL_made wsX7_product_r3 := goodIn_r _ [45, 46, 47, 48, 49, 50, 51, 52, 53, 54, 99, 100, 101, 102, 103, 82, 83, 71, 84, 73, 74, 75, 104, 69] (by decide +kernel) (by decide +kernel)
set_option maxRecDepth 20000 in
theorem gq_L_made_X7_product_r4 : GoodIn wsL_made wsX7_product_r4 := goodIn_r _ [70, 72, 135, 136, 137, 138, 139, 140, 141, 142, 143, 111, 112, 113, 98, 144, 145, 146, 147, 148, 149, 150, 68, 151] (by decide +kernel) (by decide +kernel)
set_option maxRecDepth 20000 in
theorem gq_L_made_X7_product_r5 : GoodIn wsL_made wsX7_product_r5 := goodIn_r _ [152, 153, 154, 114, 115, 116, 110, 56, 57, 59, 60, 61, 62, 63, 64, 66, 67, 117, 155, 156, 157, 158, 81, 159] (by decide +kernel) (by decide +kernel)
set_option maxRecDepth 20000 in
theorem gq_L_made_X7_product_r6 : GoodIn wsL_made wsX7_product_r6 := goodIn_r _ [160, 161, 162, 163, 164, 165, 166, 167, 168, 169, 170, 171, 172, 76, 77, 78, 79, 80, 85, 86, 87, 88, 89, 90] (by decide +kernel) (by decide +kernel)
set_option maxRecDepth 20000 in
theorem gq_L_made_X7_product_r7 : GoodIn wsL_made wsX7_product_r7 := goodIn_r _ [91, 92, 93, 94, 95, 97, 105, 106, 107, 108, 109] (by decide +kernel) (by decide +kernel)
set_option maxRecDepth 20000 in
theorem ggL_made_X7_product : GoodIn wsL_made wsX7_product := (goodIn_c7 gh_L_made_X7_product (goodIn_app (goodIn_app (goodIn_app (goodIn_app (goodIn_app (goodIn_app (goodIn_app gq_L_made_X7_product_r1 (goodIn_app gq_L_made_X7_product_r2 (goodIn_app gq_L_made_X7_product_r3 (goodIn_app gq_L_made_X7_product_r4 (goodIn_app gq_L_made_X7_product_r5 (goodIn_app gq_L_made_X7_product_r6 gq_L_made_X7_product_r7)))))) gq_L_made_X50) gq_L_made_X70) gq_L_made_X60) gq_L_made_X20) (goodIn_sub (fun _ h => List.mem_cons_of_mem _ (List.mem_append_right _ h)) (by decide +kernel))) (goodIn_sub (fun _ h => List.mem_cons_of_mem _ (List.mem_append_left _ (List.mem_append_right _ h))) (by decide +kernel))))
set_option maxRecDepth 20000 in
theorem gL_made_X7_product : GoodIn wsL_made (wsV RL 77 RX7 yX7_product wsX7_product) := goodIn_app (goodIn_of _ (by decide +kernel)) ggL_made_X7_product
theorem gh_L_made_X7_greater : GoodIn wsL_made [Cond.code yX7_greater cX7_greater 3 (some .int)] := goodIn_r _ [186] (by decide +kernel) (by decide +kernel)
set_option maxRecDepth 20000 in
theorem gq_L_made_X7_greater_r1 : GoodIn wsL_made wsX7_greater_r1 := goodIn_r _ [187, 123, 124, 125, 4, 126, 6, 7, 8, 127, 11, 96, 128, 10, 129, 130, 131, 132, 133, 134, 23, 24, 17, 18] (by decide +kernel) (by decide +kernel)
set_option maxRecDepth 20000 in
theorem gq_L_made_X7_greater_r2 : GoodIn wsL_made wsX7_greater_r2 := goodIn_r _ [19, 20, 21, 22, 25, 26, 27, 28, 29, 30, 31, 32, 33, 34, 35, 36, 37, 38, 39, 40, 41, 42, 43, 44] (by decide +kernel) (by decide +kernel)
set_option maxRecDepth 20000 in
theorem gq_L_made_X7_greater_r3 : GoodIn wsL_made wsX7_greater_r3 := goodIn_r _ [45, 46, 47, 48, 49, 50, 51, 52, 53, 54, 99, 100, 101, 102, 103, 82, 83, 71, 84, 73, 74, 75, 104, 69] (by decide +kernel) (by decide +kernel)
set_option maxRecDepth 20000 in
theorem gq_L_made_X7_greater_r4 : GoodIn wsL_made wsX7_greater_r4 := goodIn_r _ [70, 72, 135, 136, 137, 138, 139, 140, 141, 142, 143, 111, 112, 113, 98, 144, 145, 146, 147, 148, 149, 150, 68, 151] (by decide +kernel) (by decide +kernel)
set_option maxRecDepth 20000 in
theorem gq_L_made_X7_greater_r5 : GoodIn wsL_made wsX7_greater_r5 := goodIn_r _ [152, 153, 154, 114, 115, 116, 110, 56, 57, 59, 60, 61, 62, 63, 64, 66, 67, 117, 155, 156, 157, 158, 81, 159] (by decide +kernel) (by decide +kernel)
set_option maxRecDepth 20000 in
theorem gq_L_made_X7_greater_r6 : GoodIn wsL_made wsX7_greater_r6 := goodIn_r _ [160, 161, 162, 163, 164, 165, 166, 167, 168, 169, 170, 171, 172, 76, 77, 78, 79, 80, 85, 86, 87, 88, 89, 90] (by decide +kernel) (by decide +kernel)
set_option maxRecDepth 20000 in
theorem gq_L_made_X7_greater_r7 : GoodIn wsL_made wsX7_greater_r7 := goodIn_r _ [91, 92, 93, 94, 95, 97, 105, 106, 107, 108, 109] (by decide +kernel) (by decide +kernel)
set_option maxRecDepth 20000 in
theorem ggL_made_X7_greater : GoodIn wsL_made wsX7_greater := (goodIn_c7 gh_L_made_X7_greater (goodIn_app (goodIn_app (goodIn_app (goodIn_app (goodIn_app (goodIn_app (goodIn_app gq_L_made_X7_greater_r1 (goodIn_app gq_L_made_X7_greater_r2 (goodIn_app gq_L_made_X7_greater_r3 (goodIn_app gq_L_made_X7_greater_r4 (goodIn_app gq_L_made_X7_greater_r5 (goodIn_app gq_L_made_X7_greater_r6 gq_L_made_X7_greater_r7)))))) gq_L_made_X50) gq_L_made_X70) gq_L_made_X60) gq_L_made_X20) (goodIn_sub (fun _ h => List.mem_cons_of_mem _ (List.mem_append_right _ h)) (by decide +kernel))) (goodIn_sub (fun _ h => List.mem_cons_of_mem _ (List.mem_append_left _ (List.mem_append_right _ h))) (by decide +kernel))))
set_option maxRecDepth 20000 in
theorem gL_made_X7_greater : GoodIn wsL_made (wsV RL 80 RX7 yX7_greater wsX7_greater) := goodIn_app (goodIn_of _ (by decide +kernel)) ggL_made_X7_greater
theorem gh_L_made_X7_inverse : GoodIn wsL_made [Cond.code yX7_inverse cX7_inverse 2 (some .int)] := goodIn_r _ [191] (by decide +kernel) (by decide +kernel)
set_option maxRecDepth 20000 in
theorem gq_L_made_X7_inverse_r1 : GoodIn wsL_made wsX7_inverse_r1 := goodIn_r _ [192, 123, 124, 125, 4, 126, 6, 7, 8, 127, 11, 96, 128, 10, 129, 130, 131, 132, 133, 134, 23, 24, 17, 18] (by decide +kernel) (by decide +kernel)
set_option maxRecDepth 20000 in
theorem gq_L_made_X7_inverse_r2 : GoodIn wsL_made wsX7_inverse_r2 := goodIn_r _ [19, 20, 21, 22, 25, 26, 27, 28, 29, 30, 31, 32, 33, 34, 35, 36, 37, 38, 39, 40, 41, 42, 43, 44] (by decide +kernel) (by decide +kernel)
set_option maxRecDepth 20000 in
theorem gq_L_made_X7_inverse_r3 : GoodIn wsL_made wsX7_inverse_r3 := goodIn_r _ [45, 46, 47, 48, 49, 50, 51, 52, 53, 54, 99, 100, 101, 102, 103, 82, 83, 71, 84, 73, 74, 75, 104, 69] (by decide +kernel) (by decide +kernel)
set_option maxRecDepth 20000 in
theorem gq_L_made_X7_inverse_r4 : GoodIn wsL_made wsX7_inverse_r4 := goodIn_r _ [70, 72, 135, 136, 137, 138, 139, 140, 141, 142, 143, 111, 112, 113, 98, 144, 145, 146, 147, 148, 149, 150, 68, 151] (by decide +kernel) (by decide +kernel)
set_option maxRecDepth 20000 in
theorem gq_L_made_X7_inverse_r5 : GoodIn wsL_made wsX7_inverse_r5 := goodIn_r _ [152, 153, 154, 114, 115, 116, 110, 56, 57, 59, 60, 61, 62, 63, 64, 66, 67, 117, 155, 156, 157, 158, 81, 159] (by decide +kernel) (by decide +kernel)
set_option maxRecDepth 20000 in
theorem gq_L_made_X7_inverse_r6 : GoodIn wsL_made wsX7_inverse_r6 := goodIn_r _ [160, 161, 162, 163, 164, 165, 166, 167, 168, 169, 170, 171, 172, 76, 77, 78, 79, 80, 85, 86, 87, 88, 89, 90] (by decide +kernel) (by decide +kernel)
set_option maxRecDepth 20000 in
theorem gq_L_made_X7_inverse_r7 : GoodIn wsL_made wsX7_inverse_r7 := goodIn_r _ [91, 92, 93, 94, 95, 97, 105, 106, 107, 108, 109] (by decide +kernel) (by decide +kernel)
set_option maxRecDepth 20000 in
theorem ggL_made_X7_inverse : GoodIn wsL_made wsX7_inverse := (goodIn_c7 gh_L_made_X7_inverse (goodIn_app (goodIn_app (goodIn_app (goodIn_app (goodIn_app (goodIn_app (goodIn_app gq_L_made_X7_inverse_r1 (goodIn_app gq_L_made_X7_inverse_r2 (goodIn_app gq_L_made_X7_inverse_r3 (goodIn_app gq_L_made_X7_inverse_r4 (goodIn_app gq_L_made_X7_inverse_r5 (goodIn_app gq_L_made_X7_inverse_r6 gq_L_made_X7_inverse_r7)))))) gq_L_made_X50) gq_L_made_X70) gq_L_made_X60) gq_L_made_X20) (goodIn_sub (fun _ h => List.mem_cons_of_mem _ (List.mem_append_right _ h)) (by decide +kernel))) (goodIn_sub (fun _ h => List.mem_cons_of_mem _ (List.mem_append_left _ (List.mem_append_right _ h))) (by decide +kernel))))
set_option maxRecDepth 20000 in
theorem gL_made_X7_inverse : GoodIn wsL_made (wsV RL 83 RX7 yX7_inverse wsX7_inverse) := goodIn_app (goodIn_of _ (by decide +kernel)) ggL_made_X7_inverse
theorem gh_L_made_X7_root : GoodIn wsL_made [Cond.code yX7_root cX7_root 2 (some .int)] := goodIn_r _ [196] (by decide +kernel) (by decide +kernel)
set_option maxRecDepth 20000 in
theorem gq_L_made_X7_root_r1 : GoodIn wsL_made wsX7_root_r1 := goodIn_r _ [197, 123, 124, 125, 4, 126, 6, 7, 8, 127, 11, 96, 128, 10, 129, 130, 131, 132, 133, 134, 23, 24, 17, 18] (by decide +kernel) (by decide +kernel)
set_option maxRecDepth 20000 in
theorem gq_L_made_X7_root_r2 : GoodIn wsL_made wsX7_root_r2 := goodIn_r _ [19, 20, 21, 22, 25, 26, 27, 28, 29, 30, 31, 32, 33, 34, 35, 36, 37, 38, 39, 40, 41, 42, 43, 44] (by decide +kernel) (by decide +kernel)
set_option maxRecDepth 20000 in
theorem gq_L_made_X7_root_r3 : GoodIn wsL_made wsX7_root_r3 := goodIn_r _ [45, 46, 47, 48, 49, 50, 51, 52, 53, 54, 99, 100, 101, 102, 103, 82, 83, 71, 84, 73, 74, 75, 104, 69] (by decide +kernel) (by decide +kernel)
set_option maxRecDepth 20000 in
theorem gq_L_made_X7_root_r4 : GoodIn wsL_made wsX7_root_r4 := goodIn_r _ [70, 72, 135, 136, 137, 138, 139, 140, 141, 142, 143, 111, 112, 113, 98, 144, 145, 146, 147, 148, 149, 150, 68, 151] (by decide +kernel) (by decide +kernel)
set_option maxRecDepth 20000 in
theorem gq_L_made_X7_root_r5 : GoodIn wsL_made wsX7_root_r5 := goodIn_r _ [152, 153, 154, 114, 115, 116, 110, 56, 57, 59, 60, 61, 62, 63, 64, 66, 67, 117, 155, 156, 157, 158, 81, 159] (by decide +kernel) (by decide +kernel)
set_option maxRecDepth 20000 in
theorem gq_L_made_X7_root_r6 : GoodIn wsL_made wsX7_root_r6 := goodIn_r _ [160, 161, 162, 163, 164, 165, 166, 167, 168, 169, 170, 171, 172, 76, 77, 78, 79, 80, 85, 86, 87, 88, 89, 90] (by decide +kernel) (by decide +kernel)
set_option maxRecDepth 20000 in
theorem gq_L_made_X7_root_r7 : GoodIn wsL_made wsX7_root_r7 := goodIn_r _ [91, 92, 93, 94, 95, 97, 105, 106, 107, 108, 109] (by decide +kernel) (by decide +kernel)
set_option maxRecDepth 20000 in
theorem ggL_made_X7_root : GoodIn wsL_made wsX7_root := (goodIn_c7 gh_L_made_X7_root (goodIn_app (goodIn_app (goodIn_app (goodIn_app (goodIn_app (goodIn_app (goodIn_app gq_L_made_X7_root_r1 (goodIn_app gq_L_made_X7_root_r2 (goodIn_app gq_L_made_X7_root_r3 (goodIn_app gq_L_made_X7_root_r4 (goodIn_app gq_L_made_X7_root_r5 (goodIn_app gq_L_made_X7_root_r6 gq_L_made_X7_root_r7)))))) gq_L_made_X50) gq_L_made_X70) gq_L_made_X60) gq_L_made_X20) (goodIn_sub (fun _ h => List.mem_cons_of_mem _ (List.mem_append_right _ h)) (by decide +kernel))) (goodIn_sub (fun _ h => List.mem_cons_of_mem _ (List.mem_append_left _ (List.mem_append_right _ h))) (by decide +kernel))))
set_option maxRecDepth 20000 in
theorem gL_made_X7_root : GoodIn wsL_made (wsV RL 86 RX7 yX7_root wsX7_root) := goodIn_app (goodIn_of _ (by decide +kernel)) ggL_made_X7_root
theorem gh_L_made_X7_exp : GoodIn wsL_made [Cond.code yX7_exp cX7_exp 2 (some .int)] := goodIn_r _ [201] (by decide +kernel) (by decide +kernel)
set_option maxRecDepth 20000 in
theorem gq_L_made_X7_exp_r1 : GoodIn wsL_made wsX7_exp_r1 := goodIn_r _ [202, 123, 124, 125, 4, 126, 6, 7, 8, 127, 11, 96, 128, 10, 129, 130, 131, 132, 133, 134, 23, 24, 17, 18] (by decide +kernel) (by decide +kernel)
set_option maxRecDepth 20000 in
theorem gq_L_made_X7_exp_r2 : GoodIn wsL_made wsX7_exp_r2 := goodIn_r _ [19, 20, 21, 22, 25, 26, 27, 28, 29, 30, 31, 32, 33, 34, 35, 36, 37, 38, 39, 40, 41, 42, 43, 44] (by decide +kernel) (by decide +kernel)
set_option maxRecDepth 20000 in
theorem gq_L_made_X7_exp_r3 : GoodIn wsL_made wsX7_exp_r3 := goodIn_r _ [45, 46, 47, 48, 49, 50, 51, 52, 53, 54, 99, 100, 101, 102, 103, 82, 83, 71, 84, 73, 74, 75, 104, 69] (by decide +kernel) (by decide +kernel)
set_option maxRecDepth 20000 in
theorem gq_L_made_X7_exp_r4 : GoodIn wsL_made wsX7_exp_r4 := goodIn_r _ [70, 72, 135, 136, 137, 138, 139, 140, 141, 142, 143, 111, 112, 113, 98, 144, 145, 146, 147, 148, 149, 150, 68, 151] (by decide +kernel) (by decide +kernel)
set_option maxRecDepth 20000 in
theorem gq_L_made_X7_exp_r5 : GoodIn wsL_made wsX7_exp_r5 := goodIn_r _ [152, 153, 154, 114, 115, 116, 110, 56, 57, 59, 60, 61, 62, 63, 64, 66, 67, 117, 155, 156, 157, 158, 81, 159] (by decide +kernel) (by decide +kernel)
set_option maxRecDepth 20000 in
theorem gq_L_made_X7_exp_r6 : GoodIn wsL_made wsX7_exp_r6 := goodIn_r _ [160, 161, 162, 163, 164, 165, 166, 167, 168, 169, 170, 171, 172, 76, 77, 78, 79, 80, 85, 86, 87, 88, 89, 90] (by decide +kernel) (by decide +kernel)
set_option maxRecDepth 20000 in
theorem gq_L_made_X7_exp_r7 : GoodIn wsL_made wsX7_exp_r7 := goodIn_r _ [91, 92, 93, 94, 95, 97, 105, 106, 107, 108, 109] (by decide +kernel) (by decide +kernel)
set_option maxRecDepth 20000 in
theorem ggL_made_X7_exp : GoodIn wsL_made wsX7_exp := (goodIn_c7 gh_L_made_X7_exp (goodIn_app (goodIn_app (goodIn_app (goodIn_app (goodIn_app (goodIn_app (goodIn_app gq_L_made_X7_exp_r1 (goodIn_app gq_L_made_X7_exp_r2 (goodIn_app gq_L_made_X7_exp_r3 (goodIn_app gq_L_made_X7_exp_r4 (goodIn_app gq_L_made_X7_exp_r5 (goodIn_app gq_L_made_X7_exp_r6 gq_L_made_X7_exp_r7)))))) gq_L_made_X50) gq_L_made_X70) gq_L_made_X60) gq_L_made_X20) (goodIn_sub (fun _ h => List.mem_cons_of_mem _ (List.mem_append_right _ h)) (by decide +kernel))) (goodIn_sub (fun _ h => List.mem_cons_of_mem _ (List.mem_append_left _ (List.mem_append_right _ h))) (by decide +kernel))))
set_option maxRecDepth 20000 in
theorem gL_made_X7_exp : GoodIn wsL_made (wsV RL 89 RX7 yX7_exp wsX7_exp) := goodIn_app (goodIn_of _ (by decide +kernel)) ggL_made_X7_exp
theorem gh_L_seeks_X7_zero : GoodIn wsL_seeks [Cond.code yX7_zero cX7_zero 12 (some .int)] := goodIn_r _ [8] (by decide +kernel) (by decide +kernel)
set_option maxRecDepth 20000 in
theorem gq_L_seeks_X7_zero_r1 : GoodIn wsL_seeks wsX7_zero_r1 := goodIn_r _ [9, 10, 11, 12, 13, 14, 15, 16, 17, 18, 19, 20, 21, 7, 22, 23, 24, 25, 26, 27, 28, 29, 30, 31] (by decide +kernel) (by decide +kernel)
set_option maxRecDepth 20000 in
theorem gq_L_seeks_X7_zero_r2 : GoodIn wsL_seeks wsX7_zero_r2 := goodIn_r _ [32, 33, 34, 35, 36, 37, 38, 39, 40, 41, 42, 43, 44, 45, 46, 47, 48, 49, 50, 51, 52, 53, 54, 55] (by decide +kernel) (by decide +kernel)
set_option maxRecDepth 20000 in
theorem gq_L_seeks_X7_zero_r3 : GoodIn wsL_seeks wsX7_zero_r3 := goodIn_r _ [56, 57, 58, 59, 60, 61, 62, 63, 64, 65, 66, 67, 68, 69, 70, 71, 72, 73, 74, 75, 76, 77, 78, 79] (by decide +kernel) (by decide +kernel)
set_option maxRecDepth 20000 in
theorem gq_L_seeks_X7_zero_r4 : GoodIn wsL_seeks wsX7_zero_r4 := goodIn_r _ [80, 81, 82, 83, 84, 85, 86, 87, 88, 89, 90, 91, 92, 93, 94, 95, 96, 97, 98, 99, 100, 101, 102, 103] (by decide +kernel) (by decide +kernel)
set_option maxRecDepth 20000 in
theorem gq_L_seeks_X7_zero_r5 : GoodIn wsL_seeks wsX7_zero_r5 := goodIn_r _ [104, 105, 106, 107, 108, 109, 110, 111, 112, 113, 114, 115, 116, 117, 118, 119, 120, 121, 122, 123, 124, 125, 126, 127] (by decide +kernel) (by decide +kernel)
set_option maxRecDepth 20000 in
theorem gq_L_seeks_X7_zero_r6 : GoodIn wsL_seeks wsX7_zero_r6 := goodIn_r _ [128, 129, 130, 131] (by decide +kernel) (by decide +kernel)
set_option maxRecDepth 20000 in
theorem gq_L_seeks_X40 : GoodIn wsL_seeks wsX40 := goodIn_r _ [132, 133, 134, 135] (by decide +kernel) (by decide +kernel)
set_option maxRecDepth 20000 in
theorem gq_L_seeks_X50 : GoodIn wsL_seeks wsX50 := goodIn_r _ [136, 137, 138, 139, 140, 141, 142, 143] (by decide +kernel) (by decide +kernel)
set_option maxRecDepth 20000 in
theorem gq_L_seeks_X70 : GoodIn wsL_seeks wsX70 := goodIn_r _ [144, 145, 146, 147, 148, 149, 150, 151] (by decide +kernel) (by decide +kernel)
set_option maxRecDepth 20000 in
theorem gq_L_seeks_X60 : GoodIn wsL_seeks wsX60 := goodIn_r _ [152, 153, 154] (by decide +kernel) (by decide +kernel)
set_option maxRecDepth 20000 in
theorem gq_L_seeks_X20 : GoodIn wsL_seeks wsX20 := goodIn_r _ [155, 156, 157] (by decide +kernel) (by decide +kernel)
set_option maxRecDepth 20000 in
theorem ggL_seeks_X7_zero : GoodIn wsL_seeks wsX7_zero := (goodIn_c7 gh_L_seeks_X7_zero (goodIn_app (goodIn_app (goodIn_app (goodIn_app (goodIn_app (goodIn_app (goodIn_app (goodIn_app gq_L_seeks_X7_zero_r1 (goodIn_app gq_L_seeks_X7_zero_r2 (goodIn_app gq_L_seeks_X7_zero_r3 (goodIn_app gq_L_seeks_X7_zero_r4 (goodIn_app gq_L_seeks_X7_zero_r5 gq_L_seeks_X7_zero_r6))))) gq_L_seeks_X40) gq_L_seeks_X50) gq_L_seeks_X70) gq_L_seeks_X60) gq_L_seeks_X20) (goodIn_sub (fun _ h => List.mem_cons_of_mem _ (List.mem_append_left _ (List.mem_append_right _ h))) (by decide +kernel))) (goodIn_sub (fun _ h => List.mem_cons_of_mem _ (List.mem_append_right _ h)) (by decide +kernel))))
set_option maxRecDepth 20000 in
theorem gL_seeks_X7_zero : GoodIn wsL_seeks (wsV RL 92 RX7 yX7_zero wsX7_zero) := goodIn_app (goodIn_of _ (by decide +kernel)) ggL_seeks_X7_zero
theorem gh_L_instead_X7_instead : GoodIn wsL_instead [Cond.code yX7_instead cX7_instead 8 (some .long)] := goodIn_r _ [9] (by decide +kernel) (by decide +kernel)
set_option maxRecDepth 20000 in
theorem gq_L_instead_X7_instead_r1 : GoodIn wsL_instead wsX7_instead_r1 := goodIn_r _ [10, 11, 12, 13, 14, 15, 8, 16, 17, 18, 19, 20, 21, 22, 23, 24, 25, 26, 27, 28, 29, 30, 31, 32] (by decide +kernel) (by decide +kernel)
set_option maxRecDepth 20000 in
theorem gq_L_instead_X7_instead_r2 : GoodIn wsL_instead wsX7_instead_r2 := goodIn_r _ [33, 34, 35, 36, 37, 38, 39, 40, 41, 42, 43, 44, 45, 46, 47, 48, 49, 50, 51, 52, 53, 54, 55, 56] (by decide +kernel) (by decide +kernel)
set_option maxRecDepth 20000 in
theorem gq_L_instead_X7_instead_r3 : GoodIn wsL_instead wsX7_instead_r3 := goodIn_r _ [57, 58, 59, 60, 61, 62, 63, 64, 65, 66, 67, 68, 69, 70, 71, 72, 73, 74, 75, 76, 77, 78, 79, 80] (by decide +kernel) (by decide +kernel)
set_option maxRecDepth 20000 in
theorem gq_L_instead_X7_instead_r4 : GoodIn wsL_instead wsX7_instead_r4 := goodIn_r _ [81, 82, 83, 84, 85, 86, 87, 88, 89, 90, 91, 92, 93, 94, 95, 96, 97, 98, 99, 100, 101, 102, 103, 104] (by decide +kernel) (by decide +kernel)
set_option maxRecDepth 20000 in
theorem gq_L_instead_X7_instead_r5 : GoodIn wsL_instead wsX7_instead_r5 := goodIn_r _ [105, 106, 107, 108, 109, 110, 111, 112, 113, 114, 115, 116, 117, 118, 119, 120, 121, 122, 123, 124, 125, 126, 127, 128] (by decide +kernel) (by decide +kernel)
set_option maxRecDepth 20000 in
theorem gq_L_instead_X7_instead_r6 : GoodIn wsL_instead wsX7_instead_r6 := goodIn_r _ [129, 130, 131, 132, 133, 134, 135, 136, 137, 138, 139, 140, 141] (by decide +kernel) (by decide +kernel)
set_option maxRecDepth 20000 in
theorem gq_L_instead_X50 : GoodIn wsL_instead wsX50 := goodIn_r _ [142, 143, 144, 145, 146, 147, 148, 149] (by decide +kernel) (by decide +kernel)
set_option maxRecDepth 20000 in
theorem gq_L_instead_X70 : GoodIn wsL_instead wsX70 := goodIn_r _ [150, 151, 152, 153, 154, 155, 156, 157] (by decide +kernel) (by decide +kernel)
set_option maxRecDepth 20000 in
theorem gq_L_instead_X60 : GoodIn wsL_instead wsX60 := goodIn_r _ [158, 159, 160] (by decide +kernel) (by decide +kernel)
set_option maxRecDepth 20000 in
theorem gq_L_instead_X20 : GoodIn wsL_instead wsX20 := goodIn_r _ [161, 162, 163] (by decide +kernel) (by decide +kernel)
set_option maxRecDepth 20000 in
theorem ggL_instead_X7_instead : GoodIn wsL_instead wsX7_instead := (goodIn_c7 gh_L_instead_X7_instead (goodIn_app (goodIn_app (goodIn_app (goodIn_app (goodIn_app (goodIn_app (goodIn_app (goodIn_app gq_L_instead_X7_instead_r1 (goodIn_app gq_L_instead_X7_instead_r2 (goodIn_app gq_L_instead_X7_instead_r3 (goodIn_app gq_L_instead_X7_instead_r4 (goodIn_app gq_L_instead_X7_instead_r5 gq_L_instead_X7_instead_r6))))) gq_L_instead_X50) gq_L_instead_X70) gq_L_instead_X60) gq_L_instead_X20) (goodIn_sub (fun _ h => List.mem_cons_of_mem _ (List.mem_append_left _ (List.mem_append_left _ (List.mem_append_right _ h)))) (by decide +kernel))) (goodIn_sub (fun _ h => List.mem_cons_of_mem _ (List.mem_append_left _ (List.mem_append_right _ h))) (by decide +kernel))) (goodIn_sub (fun _ h => List.mem_cons_of_mem _ (List.mem_append_right _ h)) (by decide +kernel))))
set_option maxRecDepth 20000 in
theorem gL_instead_X7_instead : GoodIn wsL_instead (wsV RL 97 RX7 yX7_instead wsX7_instead) := goodIn_app (goodIn_of _ (by decide +kernel)) ggL_instead_X7_instead
set_option maxRecDepth 20000 in
theorem ggL_act_L_low : GoodIn wsL_act wsL_low := goodIn_r _ [5, 6] (by decide +kernel) (by decide +kernel)
set_option maxRecDepth 20000 in
theorem gL_act_L_low : GoodIn wsL_act (va_wsS RL 101 yL_low wsL_low) := goodIn_app (goodIn_of _ (by decide +kernel)) ggL_act_L_low
set_option maxRecDepth 20000 in
theorem ggL_act_X7_count : GoodIn wsL_act wsX7_count := goodIn_r _ [11, 12, 392, 393, 394, 395, 396, 397, 398, 399] (by decide +kernel) (by decide +kernel)
set_option maxRecDepth 20000 in
theorem gL_act_X7_count : GoodIn wsL_act (wsV RL 104 RX7 yX7_count wsX7_count) := goodIn_app (goodIn_of _ (by decide +kernel)) ggL_act_X7_count
theorem gh_L_act_L_does : GoodIn wsL_act [Cond.codeWith yL_does cL_does 6 (some .long) [(0, 236, 237, 60), (0, 236, 243, 64), (0, 236, 249, 66)]] := goodIn_r _ [15] (by decide +kernel) (by decide +kernel)
set_option maxRecDepth 20000 in
theorem gq_L_act_L_does_r1 : GoodIn wsL_act wsL_does_r1 := goodIn_r _ [16, 17, 18, 1, 19, 20, 4, 21, 22, 23, 24, 10, 25, 26, 27, 28, 29, 30, 31, 32, 33, 34, 35, 36] (by decide +kernel) (by decide +kernel)
set_option maxRecDepth 20000 in
theorem gq_L_act_L_does_r2 : GoodIn wsL_act wsL_does_r2 := goodIn_r _ [37, 38, 39, 40, 41, 42, 12, 43, 44, 45, 46, 47, 48, 49, 50, 51, 52, 53, 54, 55, 56, 57, 58, 59] (by decide +kernel) (by decide +kernel)
set_option maxRecDepth 20000 in
theorem gq_L_act_L_does_r3 : GoodIn wsL_act wsL_does_r3 := goodIn_r _ [60, 61, 62, 63, 64, 65, 66, 67, 68, 69, 70, 71, 72, 73, 74, 75, 76, 77, 78, 79, 80, 81, 82, 83] (by decide +kernel) (by decide +kernel)
set_option maxRecDepth 20000 in
theorem gq_L_act_L_does_r4 : GoodIn wsL_act wsL_does_r4 := goodIn_r _ [84, 85, 86, 87, 88, 89, 90, 91, 92, 93, 94, 95, 96, 97, 98, 99, 100, 101, 102, 103, 104, 105, 106, 107] (by decide +kernel) (by decide +kernel)
set_option maxRecDepth 20000 in
theorem gq_L_act_L_does_r5 : GoodIn wsL_act wsL_does_r5 := goodIn_r _ [108, 109, 110, 111, 112, 113, 114, 115, 116, 117, 118, 119, 120, 121, 122, 123, 124, 125, 126, 127, 128, 129, 130, 131] (by decide +kernel) (by decide +kernel)
set_option maxRecDepth 20000 in
theorem gq_L_act_L_does_r6 : GoodIn wsL_act wsL_does_r6 := goodIn_r _ [132, 133, 134, 135, 136, 137, 138, 139, 140, 141, 142, 143, 144, 145, 146, 147, 148, 149, 150, 151, 152, 153, 154, 155] (by decide +kernel) (by decide +kernel)
set_option maxRecDepth 20000 in
theorem gq_L_act_L_does_r7 : GoodIn wsL_act wsL_does_r7 := goodIn_r _ [156, 157, 158, 159, 160, 161, 162, 163, 164, 165, 166, 167, 168, 169, 170, 171, 172, 173, 174, 175, 176, 177, 178, 179] (by decide +kernel) (by decide +kernel)
set_option maxRecDepth 20000 in
theorem gq_L_act_L_does_r8 : GoodIn wsL_act wsL_does_r8 := goodIn_r _ [180, 181, 182, 183, 184, 185, 186, 187, 188, 189, 190, 191, 192, 193, 194, 195, 196, 197, 198, 199, 200, 201, 202, 203] (by decide +kernel) (by decide +kernel)
set_option maxRecDepth 20000 in
theorem gq_L_act_L_does_r9 : GoodIn wsL_act wsL_does_r9 := goodIn_r _ [204, 205, 206, 207, 208, 209, 210, 211, 212, 213, 214, 215, 216, 217, 218, 219, 220, 221, 222, 223, 224, 225, 226, 227] (by decide +kernel) (by decide +kernel)
set_option maxRecDepth 20000 in
theorem gq_L_act_L_does_r10 : GoodIn wsL_act wsL_does_r10 := goodIn_r _ [228, 229, 230, 231, 232, 233, 234, 235, 236, 237, 238, 239, 240, 241, 242, 243, 244, 245, 246, 247, 248, 249, 250, 251] (by decide +kernel) (by decide +kernel)
set_option maxRecDepth 20000 in
theorem gq_L_act_L_does_r11 : GoodIn wsL_act wsL_does_r11 := goodIn_r _ [252, 253, 254, 255, 256, 257, 258, 259, 260, 261, 262, 263, 264, 265, 266, 267, 268, 269, 270, 271, 272, 273, 274, 275] (by decide +kernel) (by decide +kernel)
set_option maxRecDepth 20000 in
theorem gq_L_act_L_does_r12 : GoodIn wsL_act wsL_does_r12 := goodIn_r _ [276, 277, 278, 279, 280, 281, 282, 283, 284, 285, 286, 287, 288, 289, 290, 291, 292, 293, 294, 295, 296, 297, 298, 299] (by decide +kernel) (by decide +kernel)
set_option maxRecDepth 20000 in
theorem gq_L_act_L_does_r13 : GoodIn wsL_act wsL_does_r13 := goodIn_r _ [300, 301, 302, 303, 304, 305, 306, 307, 308, 309, 310, 311, 312, 313, 314, 315, 316, 317, 318, 319, 320, 321, 322, 323] (by decide +kernel) (by decide +kernel)
set_option maxRecDepth 20000 in
theorem gq_L_act_L_does_r14 : GoodIn wsL_act wsL_does_r14 := goodIn_r _ [324, 325, 326, 327, 328, 329, 330, 331, 332, 333, 334] (by decide +kernel) (by decide +kernel)
set_option maxRecDepth 20000 in
theorem gq_L_act_X50 : GoodIn wsL_act wsX50 := goodIn_r _ [400, 401, 402, 403, 404, 405, 406, 407] (by decide +kernel) (by decide +kernel)
set_option maxRecDepth 20000 in
theorem gq_L_act_X70 : GoodIn wsL_act wsX70 := goodIn_r _ [392, 393, 394, 395, 396, 397, 398, 399] (by decide +kernel) (by decide +kernel)
set_option maxRecDepth 20000 in
theorem gq_L_act_X60 : GoodIn wsL_act wsX60 := goodIn_r _ [408, 409, 410] (by decide +kernel) (by decide +kernel)
set_option maxRecDepth 20000 in
theorem gq_L_act_X20 : GoodIn wsL_act wsX20 := goodIn_r _ [411, 412, 413] (by decide +kernel) (by decide +kernel)
set_option maxRecDepth 20000 in
theorem gq_L_act_X10 : GoodIn wsL_act wsX10 := goodIn_r _ [414, 415] (by decide +kernel) (by decide +kernel)
set_option maxRecDepth 20000 in
theorem ggL_act_L_does : GoodIn wsL_act wsL_does := (goodIn_c7 gh_L_act_L_does (goodIn_app (goodIn_app (goodIn_app (goodIn_app (goodIn_app (goodIn_app (goodIn_app (goodIn_app (goodIn_app gq_L_act_L_does_r1 (goodIn_app gq_L_act_L_does_r2 (goodIn_app gq_L_act_L_does_r3 (goodIn_app gq_L_act_L_does_r4 (goodIn_app gq_L_act_L_does_r5 (goodIn_app gq_L_act_L_does_r6 (goodIn_app gq_L_act_L_does_r7 (goodIn_app gq_L_act_L_does_r8 (goodIn_app gq_L_act_L_does_r9 (goodIn_app gq_L_act_L_does_r10 (goodIn_app gq_L_act_L_does_r11 (goodIn_app gq_L_act_L_does_r12 (goodIn_app gq_L_act_L_does_r13 gq_L_act_L_does_r14))))))))))))) gq_L_act_X50) gq_L_act_X70) gq_L_act_X60) gq_L_act_X20) gq_L_act_X10) (goodIn_sub (fun _ h => List.mem_cons_of_mem _ (List.mem_append_left _ (List.mem_append_left _ (List.mem_append_right _ h)))) (by decide +kernel))) (goodIn_sub (fun _ h => List.mem_cons_of_mem _ (List.mem_append_left _ (List.mem_append_right _ h))) (by decide +kernel))) (goodIn_sub (fun _ h => List.mem_cons_of_mem _ (List.mem_append_right _ h)) (by decide +kernel))))
set_option maxRecDepth 20000 in
theorem gL_act_L_does : GoodIn wsL_act (va_wsS RL 108 yL_does wsL_does) := goodIn_app (goodIn_of _ (by decide +kernel)) ggL_act_L_does
theorem gh_L_act_L_seeks : GoodIn wsL_act [Cond.codeWith yL_seeks cL_seeks 8 (some .int) [(0, 13, 14, 64), (0, 13, 19, 66)]] := goodIn_r _ [337] (by decide +kernel) (by decide +kernel)
set_option maxRecDepth 20000 in
theorem gq_L_act_L_seeks_r1 : GoodIn wsL_act wsL_seeks_r1 := goodIn_r _ [17, 18, 338, 339, 340, 341, 10, 342, 41, 42, 343, 344, 345, 26, 27, 28, 346, 31, 30, 32, 33, 34, 35, 36] (by decide +kernel) (by decide +kernel)
set_option maxRecDepth 20000 in
theorem gq_L_act_L_seeks_r2 : GoodIn wsL_act wsL_seeks_r2 := goodIn_r _ [37, 38, 39, 40, 12, 43, 347, 348, 349, 350, 52, 53, 351, 352, 353, 354, 355, 356, 357, 358, 75, 76, 359, 360] (by decide +kernel) (by decide +kernel)
set_option maxRecDepth 20000 in
theorem gq_L_act_L_seeks_r3 : GoodIn wsL_act wsL_seeks_r3 := goodIn_r _ [330, 361, 44, 45, 46, 47, 48, 49, 50, 51, 54, 55, 56, 57, 58, 59, 60, 61, 62, 63, 64, 65, 66, 67] (by decide +kernel) (by decide +kernel)
set_option maxRecDepth 20000 in
theorem gq_L_act_L_seeks_r4 : GoodIn wsL_act wsL_seeks_r4 := goodIn_r _ [68, 69, 70, 71, 72, 73, 362, 363, 364, 365, 366, 367, 131, 368, 306, 74, 87, 88, 89, 90, 91, 92, 93, 94] (by decide +kernel) (by decide +kernel)
set_option maxRecDepth 20000 in
theorem gq_L_act_L_seeks_r5 : GoodIn wsL_act wsL_seeks_r5 := goodIn_r _ [104, 105, 106, 107, 108, 109, 110, 111, 112, 113, 114, 115, 116, 117, 101, 102, 103, 118, 119, 120, 121, 122, 123, 124] (by decide +kernel) (by decide +kernel)
set_option maxRecDepth 20000 in
theorem gq_L_act_L_seeks_r6 : GoodIn wsL_act wsL_seeks_r6 := goodIn_r _ [125, 126, 127, 128, 129, 130, 132, 133, 134, 135, 136] (by decide +kernel) (by decide +kernel)
set_option maxRecDepth 20000 in
theorem gq_L_act_X40 : GoodIn wsL_act wsX40 := goodIn_r _ [416, 417, 418, 419] (by decide +kernel) (by decide +kernel)
set_option maxRecDepth 20000 in
theorem ggL_act_L_seeks : GoodIn wsL_act wsL_seeks := (goodIn_c7 gh_L_act_L_seeks (goodIn_app (goodIn_app (goodIn_app (goodIn_app (goodIn_app (goodIn_app (goodIn_app (goodIn_app gq_L_act_L_seeks_r1 (goodIn_app gq_L_act_L_seeks_r2 (goodIn_app gq_L_act_L_seeks_r3 (goodIn_app gq_L_act_L_seeks_r4 (goodIn_app gq_L_act_L_seeks_r5 gq_L_act_L_seeks_r6))))) gq_L_act_X40) gq_L_act_X50) gq_L_act_X70) gq_L_act_X60) gq_L_act_X20) (goodIn_sub (fun _ h => List.mem_cons_of_mem _ (List.mem_append_left _ (List.mem_append_right _ h))) (by decide +kernel))) (goodIn_sub (fun _ h => List.mem_cons_of_mem _ (List.mem_append_left _ (List.mem_append_left _ (List.mem_append_right _ h)))) (by decide +kernel))))
set_option maxRecDepth 20000 in
theorem gL_act_L_seeks : GoodIn wsL_act (va_wsS RL 112 yL_seeks wsL_seeks) := goodIn_app (goodIn_of _ (by decide +kernel)) ggL_act_L_seeks
theorem gh_L_act_L_instead : GoodIn wsL_act [Cond.codeWith yL_instead cL_instead 7 (some .long) [(0, 11, 12, 60), (0, 11, 18, 64), (0, 11, 24, 66)]] := goodIn_r _ [371] (by decide +kernel) (by decide +kernel)
set_option maxRecDepth 20000 in
theorem gq_L_act_L_instead_r1 : GoodIn wsL_act wsL_instead_r1 := goodIn_r _ [16, 17, 18, 1, 372, 373, 374, 10, 375, 31, 30, 376, 148, 149, 150, 151, 152, 153, 12, 43, 32, 33, 34, 35] (by decide +kernel) (by decide +kernel)
set_option maxRecDepth 20000 in
theorem gq_L_act_L_instead_r2 : GoodIn wsL_act wsL_instead_r2 := goodIn_r _ [36, 118, 119, 120, 60, 121, 72, 70, 73, 122, 101, 102, 90, 103, 92, 93, 94, 123, 88, 89, 91, 104, 105, 106] (by decide +kernel) (by decide +kernel)
set_option maxRecDepth 20000 in
theorem gq_L_act_L_instead_r3 : GoodIn wsL_act wsL_instead_r3 := goodIn_r _ [107, 108, 109, 110, 377, 378, 379, 380, 381, 115, 382, 147, 383, 384, 385, 386, 28, 387, 57, 388, 389, 390, 391, 154] (by decide +kernel) (by decide +kernel)
set_option maxRecDepth 20000 in
theorem gq_L_act_L_instead_r4 : GoodIn wsL_act wsL_instead_r4 := goodIn_r _ [155, 156, 157, 158, 159, 160, 161, 162, 130, 131, 132, 117, 163, 164, 165, 166, 167, 168, 169, 87, 170, 171, 172, 173] (by decide +kernel) (by decide +kernel)
set_option maxRecDepth 20000 in
theorem gq_L_act_L_instead_r5 : GoodIn wsL_act wsL_instead_r5 := goodIn_r _ [133, 134, 135, 129, 75, 76, 78, 79, 80, 81, 82, 83, 85, 86, 136, 174, 175, 176, 177, 100, 178, 179, 180, 181] (by decide +kernel) (by decide +kernel)
set_option maxRecDepth 20000 in
theorem gq_L_act_L_instead_r6 : GoodIn wsL_act wsL_instead_r6 := goodIn_r _ [182, 183, 184, 185, 186, 187, 188, 189, 190, 191, 95, 96, 97, 98, 99, 226, 227, 228, 229, 41, 42] (by decide +kernel) (by decide +kernel)
set_option maxRecDepth 20000 in
theorem ggL_act_L_instead : GoodIn wsL_act wsL_instead := (goodIn_c7 gh_L_act_L_instead (goodIn_app (goodIn_app (goodIn_app (goodIn_app (goodIn_app (goodIn_app (goodIn_app (goodIn_app gq_L_act_L_instead_r1 (goodIn_app gq_L_act_L_instead_r2 (goodIn_app gq_L_act_L_instead_r3 (goodIn_app gq_L_act_L_instead_r4 (goodIn_app gq_L_act_L_instead_r5 gq_L_act_L_instead_r6))))) gq_L_act_X50) gq_L_act_X70) gq_L_act_X60) gq_L_act_X20) (goodIn_sub (fun _ h => List.mem_cons_of_mem _ (List.mem_append_right _ h)) (by decide +kernel))) (goodIn_sub (fun _ h => List.mem_cons_of_mem _ (List.mem_append_left _ (List.mem_append_left _ (List.mem_append_right _ h)))) (by decide +kernel))) (goodIn_sub (fun _ h => List.mem_cons_of_mem _ (List.mem_append_left _ (List.mem_append_right _ h))) (by decide +kernel))))
set_option maxRecDepth 20000 in
theorem gL_act_L_instead : GoodIn wsL_act (va_wsS RL 116 yL_instead wsL_instead) := goodIn_app (goodIn_of _ (by decide +kernel)) ggL_act_L_instead
set_option maxRecDepth 20000 in
theorem ggL_areAlike_X7_count : GoodIn wsL_areAlike wsX7_count := goodIn_r _ [5, 6, 335, 336, 337, 338, 339, 340, 341, 342] (by decide +kernel) (by decide +kernel)
set_option maxRecDepth 20000 in
theorem gL_areAlike_X7_count : GoodIn wsL_areAlike (wsV RL 104 RX7 yX7_count wsX7_count) := goodIn_app (goodIn_of _ (by decide +kernel)) ggL_areAlike_X7_count
theorem gh_L_areAlike_L_does : GoodIn wsL_areAlike [Cond.codeWith yL_does cL_does 6 (some .long) [(0, 236, 237, 60), (0, 236, 243, 64), (0, 236, 249, 66)]] := goodIn_r _ [10] (by decide +kernel) (by decide +kernel)
set_option maxRecDepth 20000 in
theorem gq_L_areAlike_L_does_r1 : GoodIn wsL_areAlike wsL_does_r1 := goodIn_r _ [11, 12, 13, 14, 15, 16, 9, 17, 18, 19, 20, 4, 21, 22, 23, 24, 25, 26, 27, 28, 29, 30, 31, 32] (by decide +kernel) (by decide +kernel)
set_option maxRecDepth 20000 in
theorem gq_L_areAlike_L_does_r2 : GoodIn wsL_areAlike wsL_does_r2 := goodIn_r _ [33, 34, 35, 36, 37, 38, 6, 39, 40, 41, 42, 43, 44, 45, 46, 47, 48, 49, 50, 51, 52, 53, 54, 55] (by decide +kernel) (by decide +kernel)
set_option maxRecDepth 20000 in
theorem gq_L_areAlike_L_does_r3 : GoodIn wsL_areAlike wsL_does_r3 := goodIn_r _ [56, 57, 58, 59, 60, 61, 62, 63, 64, 65, 66, 67, 68, 69, 70, 71, 72, 73, 74, 75, 76, 77, 78, 79] (by decide +kernel) (by decide +kernel)
set_option maxRecDepth 20000 in
theorem gq_L_areAlike_L_does_r4 : GoodIn wsL_areAlike wsL_does_r4 := goodIn_r _ [80, 81, 82, 83, 84, 85, 86, 87, 88, 89, 90, 91, 92, 93, 94, 95, 96, 97, 98, 99, 100, 101, 102, 103] (by decide +kernel) (by decide +kernel)
set_option maxRecDepth 20000 in
theorem gq_L_areAlike_L_does_r5 : GoodIn wsL_areAlike wsL_does_r5 := goodIn_r _ [104, 105, 106, 107, 108, 109, 110, 111, 112, 113, 114, 115, 116, 117, 118, 119, 120, 121, 122, 123, 124, 125, 126, 127] (by decide +kernel) (by decide +kernel)
set_option maxRecDepth 20000 in
theorem gq_L_areAlike_L_does_r6 : GoodIn wsL_areAlike wsL_does_r6 := goodIn_r _ [128, 129, 130, 131, 132, 133, 134, 135, 136, 137, 138, 139, 140, 141, 142, 143, 144, 145, 146, 147, 148, 149, 150, 151] (by decide +kernel) (by decide +kernel)
set_option maxRecDepth 20000 in
theorem gq_L_areAlike_L_does_r7 : GoodIn wsL_areAlike wsL_does_r7 := goodIn_r _ [152, 153, 154, 155, 156, 157, 158, 159, 160, 161, 162, 163, 164, 165, 166, 167, 168, 169, 170, 171, 172, 173, 174, 175] (by decide +kernel) (by decide +kernel)
set_option maxRecDepth 20000 in
theorem gq_L_areAlike_L_does_r8 : GoodIn wsL_areAlike wsL_does_r8 := goodIn_r _ [176, 177, 178, 179, 180, 181, 182, 183, 184, 185, 186, 187, 188, 189, 190, 191, 192, 193, 194, 195, 196, 197, 198, 199] (by decide +kernel) (by decide +kernel)
set_option maxRecDepth 20000 in
theorem gq_L_areAlike_L_does_r9 : GoodIn wsL_areAlike wsL_does_r9 := goodIn_r _ [200, 201, 202, 203, 204, 205, 206, 207, 208, 209, 210, 211, 212, 213, 214, 215, 216, 217, 218, 219, 220, 221, 222, 223] (by decide +kernel) (by decide +kernel)
set_option maxRecDepth 20000 in
theorem gq_L_areAlike_L_does_r10 : GoodIn wsL_areAlike wsL_does_r10 := goodIn_r _ [224, 225, 226, 227, 228, 229, 230, 231, 232, 233, 234, 235, 236, 237, 238, 239, 240, 241, 242, 243, 244, 245, 246, 247] (by decide +kernel) (by decide +kernel)
set_option maxRecDepth 20000 in
theorem gq_L_areAlike_L_does_r11 : GoodIn wsL_areAlike wsL_does_r11 := goodIn_r _ [248, 249, 250, 251, 252, 253, 254, 255, 256, 257, 258, 259, 260, 261, 262, 263, 264, 265, 266, 267, 268, 269, 270, 271] (by decide +kernel) (by decide +kernel)
set_option maxRecDepth 20000 in
theorem gq_L_areAlike_L_does_r12 : GoodIn wsL_areAlike wsL_does_r12 := goodIn_r _ [272, 273, 274, 275, 276, 277, 278, 279, 280, 281, 282, 283, 284, 285, 286, 287, 288, 289, 290, 291, 292, 293, 294, 295] (by decide +kernel) (by decide +kernel)
set_option maxRecDepth 20000 in
theorem gq_L_areAlike_L_does_r13 : GoodIn wsL_areAlike wsL_does_r13 := goodIn_r _ [296, 297, 298, 299, 300, 301, 302, 303, 304, 305, 306, 307, 308, 309, 310, 311, 312, 313, 314, 315, 316, 317, 318, 319] (by decide +kernel) (by decide +kernel)
set_option maxRecDepth 20000 in
theorem gq_L_areAlike_L_does_r14 : GoodIn wsL_areAlike wsL_does_r14 := goodIn_r _ [320, 321, 322, 323, 324, 325, 326, 327, 328, 329, 330] (by decide +kernel) (by decide +kernel)
set_option maxRecDepth 20000 in
theorem gq_L_areAlike_X50 : GoodIn wsL_areAlike wsX50 := goodIn_r _ [343, 344, 345, 346, 347, 348, 349, 350] (by decide +kernel) (by decide +kernel)
set_option maxRecDepth 20000 in
theorem gq_L_areAlike_X70 : GoodIn wsL_areAlike wsX70 := goodIn_r _ [335, 336, 337, 338, 339, 340, 341, 342] (by decide +kernel) (by decide +kernel)
set_option maxRecDepth 20000 in
theorem gq_L_areAlike_X60 : GoodIn wsL_areAlike wsX60 := goodIn_r _ [351, 352, 353] (by decide +kernel) (by decide +kernel)
set_option maxRecDepth 20000 in
theorem gq_L_areAlike_X20 : GoodIn wsL_areAlike wsX20 := goodIn_r _ [354, 355, 356] (by decide +kernel) (by decide +kernel)
set_option maxRecDepth 20000 in
theorem gq_L_areAlike_X10 : GoodIn wsL_areAlike wsX10 := goodIn_r _ [357, 358] (by decide +kernel) (by decide +kernel)
set_option maxRecDepth 20000 in
theorem ggL_areAlike_L_does : GoodIn wsL_areAlike wsL_does := (goodIn_c7 gh_L_areAlike_L_does (goodIn_app (goodIn_app (goodIn_app (goodIn_app (goodIn_app (goodIn_app (goodIn_app (goodIn_app (goodIn_app gq_L_areAlike_L_does_r1 (goodIn_app gq_L_areAlike_L_does_r2 (goodIn_app gq_L_areAlike_L_does_r3 (goodIn_app gq_L_areAlike_L_does_r4 (goodIn_app gq_L_areAlike_L_does_r5 (goodIn_app gq_L_areAlike_L_does_r6 (goodIn_app gq_L_areAlike_L_does_r7 (goodIn_app gq_L_areAlike_L_does_r8 (goodIn_app gq_L_areAlike_L_does_r9 (goodIn_app gq_L_areAlike_L_does_r10 (goodIn_app gq_L_areAlike_L_does_r11 (goodIn_app gq_L_areAlike_L_does_r12 (goodIn_app gq_L_areAlike_L_does_r13 gq_L_areAlike_L_does_r14))))))))))))) gq_L_areAlike_X50) gq_L_areAlike_X70) gq_L_areAlike_X60) gq_L_areAlike_X20) gq_L_areAlike_X10) (goodIn_sub (fun _ h => List.mem_cons_of_mem _ (List.mem_append_left _ (List.mem_append_left _ (List.mem_append_right _ h)))) (by decide +kernel))) (goodIn_sub (fun _ h => List.mem_cons_of_mem _ (List.mem_append_left _ (List.mem_append_right _ h))) (by decide +kernel))) (goodIn_sub (fun _ h => List.mem_cons_of_mem _ (List.mem_append_right _ h)) (by decide +kernel))))
set_option maxRecDepth 20000 in
theorem gL_areAlike_L_does : GoodIn wsL_areAlike (va_wsS RL 108 yL_does wsL_does) := goodIn_app (goodIn_of _ (by decide +kernel)) ggL_areAlike_L_does
set_option maxRecDepth 20000 in
theorem ggL_areAlike_L_low : GoodIn wsL_areAlike wsL_low := goodIn_r _ [333, 334] (by decide +kernel) (by decide +kernel)
set_option maxRecDepth 20000 in
theorem gL_areAlike_L_low : GoodIn wsL_areAlike (va_wsS RL 101 yL_low wsL_low) := goodIn_app (goodIn_of _ (by decide +kernel)) ggL_areAlike_L_low
theorem gh_L_areNested_L_does : GoodIn wsL_areNested [Cond.codeWith yL_does cL_does 6 (some .long) [(0, 236, 237, 60), (0, 236, 243, 64), (0, 236, 249, 66)]] := goodIn_r _ [6] (by decide +kernel) (by decide +kernel)
set_option maxRecDepth 20000 in
theorem gq_L_areNested_L_does_r1 : GoodIn wsL_areNested wsL_does_r1 := goodIn_r _ [7, 8, 9, 1, 10, 11, 5, 12, 13, 14, 15, 16, 17, 18, 19, 20, 21, 22, 23, 24, 25, 26, 27, 28] (by decide +kernel) (by decide +kernel)
set_option maxRecDepth 20000 in
theorem gq_L_areNested_L_does_r2 : GoodIn wsL_areNested wsL_does_r2 := goodIn_r _ [29, 30, 31, 32, 33, 34, 35, 36, 37, 38, 39, 40, 41, 42, 43, 44, 45, 46, 47, 48, 49, 50, 51, 52] (by decide +kernel) (by decide +kernel)
set_option maxRecDepth 20000 in
theorem gq_L_areNested_L_does_r3 : GoodIn wsL_areNested wsL_does_r3 := goodIn_r _ [53, 54, 55, 56, 57, 58, 59, 60, 61, 62, 63, 64, 65, 66, 67, 68, 69, 70, 71, 72, 73, 74, 75, 76] (by decide +kernel) (by decide +kernel)
set_option maxRecDepth 20000 in
theorem gq_L_areNested_L_does_r4 : GoodIn wsL_areNested wsL_does_r4 := goodIn_r _ [77, 78, 79, 80, 81, 82, 83, 84, 85, 86, 87, 88, 89, 90, 91, 92, 93, 94, 95, 96, 97, 98, 99, 100] (by decide +kernel) (by decide +kernel)
set_option maxRecDepth 20000 in
theorem gq_L_areNested_L_does_r5 : GoodIn wsL_areNested wsL_does_r5 := goodIn_r _ [101, 102, 103, 104, 105, 106, 107, 108, 109, 110, 111, 112, 113, 114, 115, 116, 117, 118, 119, 120, 121, 122, 123, 124] (by decide +kernel) (by decide +kernel)
set_option maxRecDepth 20000 in
theorem gq_L_areNested_L_does_r6 : GoodIn wsL_areNested wsL_does_r6 := goodIn_r _ [125, 126, 127, 128, 129, 130, 131, 132, 133, 134, 135, 136, 137, 138, 139, 140, 141, 142, 143, 144, 145, 146, 147, 148] (by decide +kernel) (by decide +kernel)
set_option maxRecDepth 20000 in
theorem gq_L_areNested_L_does_r7 : GoodIn wsL_areNested wsL_does_r7 := goodIn_r _ [149, 150, 151, 152, 153, 154, 155, 156, 157, 158, 159, 160, 161, 162, 163, 164, 165, 166, 167, 168, 169, 170, 171, 172] (by decide +kernel) (by decide +kernel)
set_option maxRecDepth 20000 in
theorem gq_L_areNested_L_does_r8 : GoodIn wsL_areNested wsL_does_r8 := goodIn_r _ [173, 174, 175, 176, 177, 178, 179, 180, 181, 182, 183, 184, 185, 186, 187, 188, 189, 190, 191, 192, 193, 194, 195, 196] (by decide +kernel) (by decide +kernel)
set_option maxRecDepth 20000 in
theorem gq_L_areNested_L_does_r9 : GoodIn wsL_areNested wsL_does_r9 := goodIn_r _ [197, 198, 199, 200, 201, 202, 203, 204, 205, 206, 207, 208, 209, 210, 211, 212, 213, 214, 215, 216, 217, 218, 219, 220] (by decide +kernel) (by decide +kernel)
set_option maxRecDepth 20000 in
theorem gq_L_areNested_L_does_r10 : GoodIn wsL_areNested wsL_does_r10 := goodIn_r _ [221, 222, 223, 224, 225, 226, 227, 228, 229, 230, 231, 232, 233, 234, 235, 236, 237, 238, 239, 240, 241, 242, 243, 244] (by decide +kernel) (by decide +kernel)
set_option maxRecDepth 20000 in
theorem gq_L_areNested_L_does_r11 : GoodIn wsL_areNested wsL_does_r11 := goodIn_r _ [245, 246, 247, 248, 249, 250, 251, 252, 253, 254, 255, 256, 257, 258, 259, 260, 261, 262, 263, 264, 265, 266, 267, 268] (by decide +kernel) (by decide +kernel)
set_option maxRecDepth 20000 in
theorem gq_L_areNested_L_does_r12 : GoodIn wsL_areNested wsL_does_r12 := goodIn_r _ [269, 270, 271, 272, 273, 274, 275, 276, 277, 278, 279, 280, 281, 282, 283, 284, 285, 286, 287, 288, 289, 290, 291, 292] (by decide +kernel) (by decide +kernel)
set_option maxRecDepth 20000 in
theorem gq_L_areNested_L_does_r13 : GoodIn wsL_areNested wsL_does_r13 := goodIn_r _ [293, 294, 295, 296, 297, 298, 299, 300, 301, 302, 303, 304, 305, 306, 307, 308, 309, 310, 311, 312, 313, 314, 315, 316] (by decide +kernel) (by decide +kernel)
set_option maxRecDepth 20000 in
theorem gq_L_areNested_L_does_r14 : GoodIn wsL_areNested wsL_does_r14 := goodIn_r _ [317, 318, 319, 320, 321, 322, 323, 324, 325, 326, 327] (by decide +kernel) (by decide +kernel)
set_option maxRecDepth 20000 in
theorem gq_L_areNested_X50 : GoodIn wsL_areNested wsX50 := goodIn_r _ [328, 329, 330, 331, 332, 333, 334, 335] (by decide +kernel) (by decide +kernel)
set_option maxRecDepth 20000 in
theorem gq_L_areNested_X70 : GoodIn wsL_areNested wsX70 := goodIn_r _ [336, 337, 338, 339, 340, 341, 342, 343] (by decide +kernel) (by decide +kernel)
set_option maxRecDepth 20000 in
theorem gq_L_areNested_X60 : GoodIn wsL_areNested wsX60 := goodIn_r _ [344, 345, 346] (by decide +kernel) (by decide +kernel)
set_option maxRecDepth 20000 in
theorem gq_L_areNested_X20 : GoodIn wsL_areNested wsX20 := goodIn_r _ [347, 348, 349] (by decide +kernel) (by decide +kernel)
set_option maxRecDepth 20000 in
theorem gq_L_areNested_X10 : GoodIn wsL_areNested wsX10 := goodIn_r _ [350, 351] (by decide +kernel) (by decide +kernel)
set_option maxRecDepth 20000 in
theorem ggL_areNested_L_does : GoodIn wsL_areNested wsL_does := (goodIn_c7 gh_L_areNested_L_does (goodIn_app (goodIn_app (goodIn_app (goodIn_app (goodIn_app (goodIn_app (goodIn_app (goodIn_app (goodIn_app gq_L_areNested_L_does_r1 (goodIn_app gq_L_areNested_L_does_r2 (goodIn_app gq_L_areNested_L_does_r3 (goodIn_app gq_L_areNested_L_does_r4 (goodIn_app gq_L_areNested_L_does_r5 (goodIn_app gq_L_areNested_L_does_r6 (goodIn_app gq_L_areNested_L_does_r7 (goodIn_app gq_L_areNested_L_does_r8 (goodIn_app gq_L_areNested_L_does_r9 (goodIn_app gq_L_areNested_L_does_r10 (goodIn_app gq_L_areNested_L_does_r11 (goodIn_app gq_L_areNested_L_does_r12 (goodIn_app gq_L_areNested_L_does_r13 gq_L_areNested_L_does_r14))))))))))))) gq_L_areNested_X50) gq_L_areNested_X70) gq_L_areNested_X60) gq_L_areNested_X20) gq_L_areNested_X10) (goodIn_sub (fun _ h => List.mem_cons_of_mem _ (List.mem_append_left _ (List.mem_append_left _ (List.mem_append_right _ h)))) (by decide +kernel))) (goodIn_sub (fun _ h => List.mem_cons_of_mem _ (List.mem_append_left _ (List.mem_append_right _ h))) (by decide +kernel))) (goodIn_sub (fun _ h => List.mem_cons_of_mem _ (List.mem_append_right _ h)) (by decide +kernel))))
set_option maxRecDepth 20000 in
theorem gL_areNested_L_does : GoodIn wsL_areNested (va_wsS RL 108 yL_does wsL_does) := goodIn_app (goodIn_of _ (by decide +kernel)) ggL_areNested_L_does
theorem gh_L_isKept_L_does : GoodIn wsL_isKept [Cond.codeWith yL_does cL_does 6 (some .long) [(0, 236, 237, 60), (0, 236, 243, 64), (0, 236, 249, 66)]] := goodIn_r _ [5] (by decide +kernel) (by decide +kernel)
set_option maxRecDepth 20000 in
theorem gq_L_isKept_L_does_r1 : GoodIn wsL_isKept wsL_does_r1 := goodIn_r _ [6, 7, 8, 1, 9, 10, 4, 11, 12, 13, 14, 15, 16, 17, 18, 19, 20, 21, 22, 23, 24, 25, 26, 27] (by decide +kernel) (by decide +kernel)
set_option maxRecDepth 20000 in
theorem gq_L_isKept_L_does_r2 : GoodIn wsL_isKept wsL_does_r2 := goodIn_r _ [28, 29, 30, 31, 32, 33, 34, 35, 36, 37, 38, 39, 40, 41, 42, 43, 44, 45, 46, 47, 48, 49, 50, 51] (by decide +kernel) (by decide +kernel)
set_option maxRecDepth 20000 in
theorem gq_L_isKept_L_does_r3 : GoodIn wsL_isKept wsL_does_r3 := goodIn_r _ [52, 53, 54, 55, 56, 57, 58, 59, 60, 61, 62, 63, 64, 65, 66, 67, 68, 69, 70, 71, 72, 73, 74, 75] (by decide +kernel) (by decide +kernel)
set_option maxRecDepth 20000 in
theorem gq_L_isKept_L_does_r4 : GoodIn wsL_isKept wsL_does_r4 := goodIn_r _ [76, 77, 78, 79, 80, 81, 82, 83, 84, 85, 86, 87, 88, 89, 90, 91, 92, 93, 94, 95, 96, 97, 98, 99] (by decide +kernel) (by decide +kernel)
set_option maxRecDepth 20000 in
theorem gq_L_isKept_L_does_r5 : GoodIn wsL_isKept wsL_does_r5 := goodIn_r _ [100, 101, 102, 103, 104, 105, 106, 107, 108, 109, 110, 111, 112, 113, 114, 115, 116, 117, 118, 119, 120, 121, 122, 123] (by decide +kernel) (by decide +kernel)
set_option maxRecDepth 20000 in
theorem gq_L_isKept_L_does_r6 : GoodIn wsL_isKept wsL_does_r6 := goodIn_r _ [124, 125, 126, 127, 128, 129, 130, 131, 132, 133, 134, 135, 136, 137, 138, 139, 140, 141, 142, 143, 144, 145, 146, 147] (by decide +kernel) (by decide +kernel)
set_option maxRecDepth 20000 in
theorem gq_L_isKept_L_does_r7 : GoodIn wsL_isKept wsL_does_r7 := goodIn_r _ [148, 149, 150, 151, 152, 153, 154, 155, 156, 157, 158, 159, 160, 161, 162, 163, 164, 165, 166, 167, 168, 169, 170, 171] (by decide +kernel) (by decide +kernel)
set_option maxRecDepth 20000 in
theorem gq_L_isKept_L_does_r8 : GoodIn wsL_isKept wsL_does_r8 := goodIn_r _ [172, 173, 174, 175, 176, 177, 178, 179, 180, 181, 182, 183, 184, 185, 186, 187, 188, 189, 190, 191, 192, 193, 194, 195] (by decide +kernel) (by decide +kernel)
set_option maxRecDepth 20000 in
theorem gq_L_isKept_L_does_r9 : GoodIn wsL_isKept wsL_does_r9 := goodIn_r _ [196, 197, 198, 199, 200, 201, 202, 203, 204, 205, 206, 207, 208, 209, 210, 211, 212, 213, 214, 215, 216, 217, 218, 219] (by decide +kernel) (by decide +kernel)
set_option maxRecDepth 20000 in
theorem gq_L_isKept_L_does_r10 : GoodIn wsL_isKept wsL_does_r10 := goodIn_r _ [220, 221, 222, 223, 224, 225, 226, 227, 228, 229, 230, 231, 232, 233, 234, 235, 236, 237, 238, 239, 240, 241, 242, 243] (by decide +kernel) (by decide +kernel)
set_option maxRecDepth 20000 in
theorem gq_L_isKept_L_does_r11 : GoodIn wsL_isKept wsL_does_r11 := goodIn_r _ [244, 245, 246, 247, 248, 249, 250, 251, 252, 253, 254, 255, 256, 257, 258, 259, 260, 261, 262, 263, 264, 265, 266, 267] (by decide +kernel) (by decide +kernel)
set_option maxRecDepth 20000 in
theorem gq_L_isKept_L_does_r12 : GoodIn wsL_isKept wsL_does_r12 := goodIn_r _ [268, 269, 270, 271, 272, 273, 274, 275, 276, 277, 278, 279, 280, 281, 282, 283, 284, 285, 286, 287, 288, 289, 290, 291] (by decide +kernel) (by decide +kernel)
set_option maxRecDepth 20000 in
theorem gq_L_isKept_L_does_r13 : GoodIn wsL_isKept wsL_does_r13 := goodIn_r _ [292, 293, 294, 295, 296, 297, 298, 299, 300, 301, 302, 303, 304, 305, 306, 307, 308, 309, 310, 311, 312, 313, 314, 315] (by decide +kernel) (by decide +kernel)
set_option maxRecDepth 20000 in
theorem gq_L_isKept_L_does_r14 : GoodIn wsL_isKept wsL_does_r14 := goodIn_r _ [316, 317, 318, 319, 320, 321, 322, 323, 324, 325, 326] (by decide +kernel) (by decide +kernel)
set_option maxRecDepth 20000 in
theorem gq_L_isKept_X50 : GoodIn wsL_isKept wsX50 := goodIn_r _ [327, 328, 329, 330, 331, 332, 333, 334] (by decide +kernel) (by decide +kernel)
set_option maxRecDepth 20000 in
theorem gq_L_isKept_X70 : GoodIn wsL_isKept wsX70 := goodIn_r _ [335, 336, 337, 338, 339, 340, 341, 342] (by decide +kernel) (by decide +kernel)
set_option maxRecDepth 20000 in
theorem gq_L_isKept_X60 : GoodIn wsL_isKept wsX60 := goodIn_r _ [343, 344, 345] (by decide +kernel) (by decide +kernel)
set_option maxRecDepth 20000 in
theorem gq_L_isKept_X20 : GoodIn wsL_isKept wsX20 := goodIn_r _ [346, 347, 348] (by decide +kernel) (by decide +kernel)
set_option maxRecDepth 20000 in
theorem gq_L_isKept_X10 : GoodIn wsL_isKept wsX10 := goodIn_r _ [349, 350] (by decide +kernel) (by decide +kernel)
set_option maxRecDepth 20000 in
theorem ggL_isKept_L_does : GoodIn wsL_isKept wsL_does := (goodIn_c7 gh_L_isKept_L_does (goodIn_app (goodIn_app (goodIn_app (goodIn_app (goodIn_app (goodIn_app (goodIn_app (goodIn_app (goodIn_app gq_L_isKept_L_does_r1 (goodIn_app gq_L_isKept_L_does_r2 (goodIn_app gq_L_isKept_L_does_r3 (goodIn_app gq_L_isKept_L_does_r4 (goodIn_app gq_L_isKept_L_does_r5 (goodIn_app gq_L_isKept_L_does_r6 (goodIn_app gq_L_isKept_L_does_r7 (goodIn_app gq_L_isKept_L_does_r8 (goodIn_app gq_L_isKept_L_does_r9 (goodIn_app gq_L_isKept_L_does_r10 (goodIn_app gq_L_isKept_L_does_r11 (goodIn_app gq_L_isKept_L_does_r12 (goodIn_app gq_L_isKept_L_does_r13 gq_L_isKept_L_does_r14))))))))))))) gq_L_isKept_X50) gq_L_isKept_X70) gq_L_isKept_X60) gq_L_isKept_X20) gq_L_isKept_X10) (goodIn_sub (fun _ h => List.mem_cons_of_mem _ (List.mem_append_left _ (List.mem_append_left _ (List.mem_append_right _ h)))) (by decide +kernel))) (goodIn_sub (fun _ h => List.mem_cons_of_mem _ (List.mem_append_left _ (List.mem_append_right _ h))) (by decide +kernel))) (goodIn_sub (fun _ h => List.mem_cons_of_mem _ (List.mem_append_right _ h)) (by decide +kernel))))
set_option maxRecDepth 20000 in
theorem gL_isKept_L_does : GoodIn wsL_isKept (va_wsS RL 108 yL_does wsL_does) := goodIn_app (goodIn_of _ (by decide +kernel)) ggL_isKept_L_does
set_option maxRecDepth 20000 in
theorem ggL_areDigits_X7_emitted : GoodIn wsL_areDigits wsX7_emitted := goodIn_ca (goodIn_r _ [5, 6, 7, 8, 9, 4, 10, 11, 12, 13, 14, 350, 351, 352, 353, 354, 355, 356, 357, 358, 359, 360, 361, 362, 363, 364, 365] (by decide +kernel) (by decide +kernel)) (goodIn_sub (fun _ h => List.mem_cons_of_mem _ (List.mem_append_left _ (List.mem_append_left _ (List.mem_append_right _ h)))) (by decide +kernel))
set_option maxRecDepth 20000 in
theorem gL_areDigits_X7_emitted : GoodIn wsL_areDigits (wsV RL 47 RX7 yX7_emitted wsX7_emitted) := goodIn_app (goodIn_of _ (by decide +kernel)) ggL_areDigits_X7_emitted
set_option maxRecDepth 20000 in
theorem ggL_areDigits_X7_partial : GoodIn wsL_areDigits wsX7_partial := goodIn_ca (goodIn_r _ [18, 19, 7, 8, 9, 4, 10, 11, 12, 13, 14, 350, 351, 352, 353, 354, 355, 356, 357, 358, 359, 360, 361, 362, 363, 364, 365] (by decide +kernel) (by decide +kernel)) (goodIn_sub (fun _ h => List.mem_cons_of_mem _ (List.mem_append_left _ (List.mem_append_left _ (List.mem_append_right _ h)))) (by decide +kernel))
set_option maxRecDepth 20000 in
theorem gL_areDigits_X7_partial : GoodIn wsL_areDigits (wsV RL 50 RX7 yX7_partial wsX7_partial) := goodIn_app (goodIn_of _ (by decide +kernel)) ggL_areDigits_X7_partial
theorem gh_L_areDigits_L_does : GoodIn wsL_areDigits [Cond.codeWith yL_does cL_does 6 (some .long) [(0, 236, 237, 60), (0, 236, 243, 64), (0, 236, 249, 66)]] := goodIn_r _ [23] (by decide +kernel) (by decide +kernel)
set_option maxRecDepth 20000 in
theorem gq_L_areDigits_L_does_r1 : GoodIn wsL_areDigits wsL_does_r1 := goodIn_r _ [24, 25, 26, 27, 28, 29, 22, 30, 31, 32, 33, 4, 34, 35, 36, 37, 38, 39, 40, 41, 42, 43, 44, 45] (by decide +kernel) (by decide +kernel)
set_option maxRecDepth 20000 in
theorem gq_L_areDigits_L_does_r2 : GoodIn wsL_areDigits wsL_does_r2 := goodIn_r _ [46, 47, 48, 49, 50, 51, 13, 14, 52, 53, 54, 55, 56, 57, 58, 59, 60, 61, 62, 63, 64, 65, 66, 67] (by decide +kernel) (by decide +kernel)
set_option maxRecDepth 20000 in
theorem gq_L_areDigits_L_does_r3 : GoodIn wsL_areDigits wsL_does_r3 := goodIn_r _ [68, 69, 70, 71, 72, 73, 74, 75, 76, 77, 78, 79, 80, 81, 82, 83, 84, 85, 86, 87, 88, 89, 90, 91] (by decide +kernel) (by decide +kernel)
set_option maxRecDepth 20000 in
theorem gq_L_areDigits_L_does_r4 : GoodIn wsL_areDigits wsL_does_r4 := goodIn_r _ [92, 93, 94, 95, 96, 97, 98, 99, 100, 101, 102, 103, 104, 105, 106, 107, 108, 109, 110, 111, 112, 113, 114, 115] (by decide +kernel) (by decide +kernel)
set_option maxRecDepth 20000 in
theorem gq_L_areDigits_L_does_r5 : GoodIn wsL_areDigits wsL_does_r5 := goodIn_r _ [116, 117, 118, 119, 120, 121, 122, 123, 124, 125, 126, 127, 128, 129, 130, 131, 132, 133, 134, 135, 136, 137, 138, 139] (by decide +kernel) (by decide +kernel)
set_option maxRecDepth 20000 in
theorem gq_L_areDigits_L_does_r6 : GoodIn wsL_areDigits wsL_does_r6 := goodIn_r _ [140, 141, 142, 143, 144, 145, 146, 147, 148, 149, 150, 151, 152, 153, 154, 155, 7, 8, 9, 10, 11, 12, 156, 157] (by decide +kernel) (by decide +kernel)
set_option maxRecDepth 20000 in
theorem gq_L_areDigits_L_does_r7 : GoodIn wsL_areDigits wsL_does_r7 := goodIn_r _ [158, 159, 160, 161, 162, 163, 164, 165, 166, 167, 168, 169, 170, 171, 172, 173, 174, 175, 176, 177, 178, 179, 180, 181] (by decide +kernel) (by decide +kernel)
set_option maxRecDepth 20000 in
theorem gq_L_areDigits_L_does_r8 : GoodIn wsL_areDigits wsL_does_r8 := goodIn_r _ [182, 183, 184, 185, 186, 187, 188, 189, 190, 191, 192, 193, 194, 195, 196, 197, 198, 199, 200, 201, 202, 203, 204, 205] (by decide +kernel) (by decide +kernel)
set_option maxRecDepth 20000 in
theorem gq_L_areDigits_L_does_r9 : GoodIn wsL_areDigits wsL_does_r9 := goodIn_r _ [206, 207, 208, 209, 210, 211, 212, 213, 214, 215, 216, 217, 218, 219, 220, 221, 222, 223, 224, 225, 226, 227, 228, 229] (by decide +kernel) (by decide +kernel)
set_option maxRecDepth 20000 in
theorem gq_L_areDigits_L_does_r10 : GoodIn wsL_areDigits wsL_does_r10 := goodIn_r _ [230, 231, 232, 233, 234, 235, 236, 237, 238, 239, 240, 241, 242, 243, 244, 245, 246, 247, 248, 249, 250, 251, 252, 253] (by decide +kernel) (by decide +kernel)
set_option maxRecDepth 20000 in
theorem gq_L_areDigits_L_does_r11 : GoodIn wsL_areDigits wsL_does_r11 := goodIn_r _ [254, 255, 256, 257, 258, 259, 260, 261, 262, 263, 264, 265, 266, 267, 268, 269, 270, 271, 272, 273, 274, 275, 276, 277] (by decide +kernel) (by decide +kernel)
set_option maxRecDepth 20000 in
theorem gq_L_areDigits_L_does_r12 : GoodIn wsL_areDigits wsL_does_r12 := goodIn_r _ [278, 279, 280, 281, 282, 283, 284, 285, 286, 287, 288, 289, 290, 291, 292, 293, 294, 295, 296, 297, 298, 299, 300, 301] (by decide +kernel) (by decide +kernel)
set_option maxRecDepth 20000 in
theorem gq_L_areDigits_L_does_r13 : GoodIn wsL_areDigits wsL_does_r13 := goodIn_r _ [302, 303, 304, 305, 306, 6, 307, 19, 308, 309, 310, 311, 1, 2, 3, 5, 15, 16, 17, 18, 312, 313, 314, 315] (by decide +kernel) (by decide +kernel)
set_option maxRecDepth 20000 in
theorem gq_L_areDigits_L_does_r14 : GoodIn wsL_areDigits wsL_does_r14 := goodIn_r _ [316, 317, 318, 319, 320, 321, 322, 323, 324, 325, 326] (by decide +kernel) (by decide +kernel)
set_option maxRecDepth 20000 in
theorem gq_L_areDigits_X50 : GoodIn wsL_areDigits wsX50 := goodIn_r _ [350, 351, 352, 353, 354, 355, 356, 357] (by decide +kernel) (by decide +kernel)
set_option maxRecDepth 20000 in
theorem gq_L_areDigits_X70 : GoodIn wsL_areDigits wsX70 := goodIn_r _ [358, 359, 360, 361, 362, 363, 364, 365] (by decide +kernel) (by decide +kernel)
set_option maxRecDepth 20000 in
theorem gq_L_areDigits_X60 : GoodIn wsL_areDigits wsX60 := goodIn_r _ [366, 367, 368] (by decide +kernel) (by decide +kernel)
set_option maxRecDepth 20000 in
theorem gq_L_areDigits_X20 : GoodIn wsL_areDigits wsX20 := goodIn_r _ [369, 370, 371] (by decide +kernel) (by decide +kernel)
set_option maxRecDepth 20000 in
theorem gq_L_areDigits_X10 : GoodIn wsL_areDigits wsX10 := goodIn_r _ [372, 373] (by decide +kernel) (by decide +kernel)
set_option maxRecDepth 20000 in
theorem ggL_areDigits_L_does : GoodIn wsL_areDigits wsL_does := (goodIn_c7 gh_L_areDigits_L_does (goodIn_app (goodIn_app (goodIn_app (goodIn_app (goodIn_app (goodIn_app (goodIn_app (goodIn_app (goodIn_app gq_L_areDigits_L_does_r1 (goodIn_app gq_L_areDigits_L_does_r2 (goodIn_app gq_L_areDigits_L_does_r3 (goodIn_app gq_L_areDigits_L_does_r4 (goodIn_app gq_L_areDigits_L_does_r5 (goodIn_app gq_L_areDigits_L_does_r6 (goodIn_app gq_L_areDigits_L_does_r7 (goodIn_app gq_L_areDigits_L_does_r8 (goodIn_app gq_L_areDigits_L_does_r9 (goodIn_app gq_L_areDigits_L_does_r10 (goodIn_app gq_L_areDigits_L_does_r11 (goodIn_app gq_L_areDigits_L_does_r12 (goodIn_app gq_L_areDigits_L_does_r13 gq_L_areDigits_L_does_r14))))))))))))) gq_L_areDigits_X50) gq_L_areDigits_X70) gq_L_areDigits_X60) gq_L_areDigits_X20) gq_L_areDigits_X10) (goodIn_sub (fun _ h => List.mem_cons_of_mem _ (List.mem_append_left _ (List.mem_append_right _ h))) (by decide +kernel))) (goodIn_sub (fun _ h => List.mem_cons_of_mem _ (List.mem_append_right _ h)) (by decide +kernel))) (goodIn_sub (fun _ h => List.mem_cons_of_mem _ (List.mem_append_left _ (List.mem_append_left _ (List.mem_append_right _ h)))) (by decide +kernel))))
set_option maxRecDepth 20000 in
theorem gL_areDigits_L_does : GoodIn wsL_areDigits (va_wsS RL 108 yL_does wsL_does) := goodIn_app (goodIn_of _ (by decide +kernel)) ggL_areDigits_L_does
theorem gh_L_areDigits_L_instead : GoodIn wsL_areDigits [Cond.codeWith yL_instead cL_instead 7 (some .long) [(0, 11, 12, 60), (0, 11, 18, 64), (0, 11, 24, 66)]] := goodIn_r _ [329] (by decide +kernel) (by decide +kernel)
set_option maxRecDepth 20000 in
theorem gq_L_areDigits_L_instead_r1 : GoodIn wsL_areDigits wsL_instead_r1 := goodIn_r _ [24, 25, 26, 27, 330, 331, 332, 4, 333, 40, 39, 334, 7, 8, 9, 10, 11, 12, 13, 14, 41, 42, 43, 44] (by decide +kernel) (by decide +kernel)
set_option maxRecDepth 20000 in
theorem gq_L_areDigits_L_instead_r2 : GoodIn wsL_areDigits wsL_instead_r2 := goodIn_r _ [45, 126, 127, 128, 68, 129, 80, 78, 81, 130, 109, 110, 98, 111, 100, 101, 102, 131, 96, 97, 99, 112, 113, 114] (by decide +kernel) (by decide +kernel)
set_option maxRecDepth 20000 in
theorem gq_L_areDigits_L_instead_r3 : GoodIn wsL_areDigits wsL_instead_r3 := goodIn_r _ [115, 116, 117, 118, 335, 336, 337, 338, 339, 123, 340, 155, 341, 342, 343, 344, 37, 345, 65, 346, 347, 348, 349, 156] (by decide +kernel) (by decide +kernel)
set_option maxRecDepth 20000 in
theorem gq_L_areDigits_L_instead_r4 : GoodIn wsL_areDigits wsL_instead_r4 := goodIn_r _ [157, 158, 159, 160, 161, 162, 163, 164, 138, 139, 140, 125, 165, 166, 167, 168, 169, 170, 171, 95, 172, 173, 174, 175] (by decide +kernel) (by decide +kernel)
set_option maxRecDepth 20000 in
theorem gq_L_areDigits_L_instead_r5 : GoodIn wsL_areDigits wsL_instead_r5 := goodIn_r _ [141, 142, 143, 137, 83, 84, 86, 87, 88, 89, 90, 91, 93, 94, 144, 176, 177, 178, 179, 108, 180, 181, 182, 183] (by decide +kernel) (by decide +kernel)
set_option maxRecDepth 20000 in
theorem gq_L_areDigits_L_instead_r6 : GoodIn wsL_areDigits wsL_instead_r6 := goodIn_r _ [184, 185, 186, 187, 188, 189, 190, 191, 192, 193, 103, 104, 105, 106, 107, 228, 229, 230, 231, 50, 51] (by decide +kernel) (by decide +kernel)
set_option maxRecDepth 20000 in
theorem ggL_areDigits_L_instead : GoodIn wsL_areDigits wsL_instead := (goodIn_c7 gh_L_areDigits_L_instead (goodIn_app (goodIn_app (goodIn_app (goodIn_app (goodIn_app (goodIn_app (goodIn_app (goodIn_app gq_L_areDigits_L_instead_r1 (goodIn_app gq_L_areDigits_L_instead_r2 (goodIn_app gq_L_areDigits_L_instead_r3 (goodIn_app gq_L_areDigits_L_instead_r4 (goodIn_app gq_L_areDigits_L_instead_r5 gq_L_areDigits_L_instead_r6))))) gq_L_areDigits_X50) gq_L_areDigits_X70) gq_L_areDigits_X60) gq_L_areDigits_X20) (goodIn_sub (fun _ h => List.mem_cons_of_mem _ (List.mem_append_left _ (List.mem_append_left _ (List.mem_append_right _ h)))) (by decide +kernel))) (goodIn_sub (fun _ h => List.mem_cons_of_mem _ (List.mem_append_left _ (List.mem_append_right _ h))) (by decide +kernel))) (goodIn_sub (fun _ h => List.mem_cons_of_mem _ (List.mem_append_right _ h)) (by decide +kernel))))
set_option maxRecDepth 20000 in
theorem gL_areDigits_L_instead : GoodIn wsL_areDigits (va_wsS RL 116 yL_instead wsL_instead) := goodIn_app (goodIn_of _ (by decide +kernel)) ggL_areDigits_L_instead
set_option maxRecDepth 20000 in
theorem ggL_areDigits_X7_needs : GoodIn wsL_areDigits wsX7_needs := goodIn_ca (goodIn_r _ [319, 154, 7, 8, 9, 4, 10, 11, 12, 13, 14, 320, 321, 322, 323, 324, 325, 326, 350, 351, 352, 353, 354, 355, 356, 357, 358, 359, 360, 361, 362, 363, 364, 365] (by decide +kernel) (by decide +kernel)) (goodIn_sub (fun _ h => List.mem_cons_of_mem _ (List.mem_append_left _ (List.mem_append_left _ (List.mem_append_right _ h)))) (by decide +kernel))
set_option maxRecDepth 20000 in
theorem gL_areDigits_X7_needs : GoodIn wsL_areDigits (wsV RL 57 RX7 yX7_needs wsX7_needs) := goodIn_app (goodIn_of _ (by decide +kernel)) ggL_areDigits_X7_needs
