set_option maxRecDepth 20000 in
theorem ggL_law_X4_init : GoodIn wsL_law wsX4_init := goodIn_r _ [17, 18, 19, 20, 21, 22, 23, 24, 25, 26, 27, 28, 29, 30, 31, 32, 33, 34, 35, 36, 37, 38, 39, 40, 41, 3, 42, 43, 44, 12, 13, 14, 45, 46, 47, 48, 49, 50, 51, 52, 53, 54, 55, 56, 57, 58, 59, 60, 61, 62, 63, 64, 65, 66, 67, 68, 69, 70, 71, 72, 73, 74, 75, 76, 77, 78, 79, 484, 485, 486, 487, 488, 489, 499, 500, 501, 502, 503, 504, 505, 506, 507, 508, 509, 510, 511, 512, 513, 514, 515, 516, 517, 518] (by decide +kernel) (by decide +kernel)
set_option maxRecDepth 20000 in
theorem gL_law_X4_init : GoodIn wsL_law (wsX4_init) := ggL_law_X4_init
set_option maxRecDepth 20000 in
theorem ggL_law_L_build_c0 : GoodIn wsL_law [Cond.code yL_build cL_build 5 (some (.object "CannonStacksLaw$Sim"))] := goodIn_r _ [83] rfl (by decide +kernel)
set_option maxRecDepth 20000 in
theorem ggL_law_L_build_c1 : GoodIn wsL_law wsL_build_r1 := goodIn_r _ [84, 85, 86, 87, 88, 89, 19, 20, 90, 3, 91, 92, 93, 94, 95, 96, 97, 98, 99, 100, 82, 101, 102, 103] (by decide +kernel) (by decide +kernel)
set_option maxRecDepth 20000 in
theorem ggL_law_L_build_c2 : GoodIn wsL_law wsL_build_r2 := goodIn_r _ [104, 105, 106, 107, 108, 109, 110, 111, 112, 113, 114, 115, 116, 10, 4, 117, 118, 119, 120, 121, 122, 13, 123, 124] rfl (by decide +kernel)
set_option maxRecDepth 20000 in
theorem ggL_law_L_build_c3 : GoodIn wsL_law wsL_build_r3 := goodIn_r _ [125, 126, 127, 128, 129, 130, 131, 132, 133, 134, 135, 136, 137, 138, 2, 139, 140, 141, 34, 142, 143, 22, 144, 145] (by decide +kernel) (by decide +kernel)
set_option maxRecDepth 20000 in
theorem ggL_law_L_build_c4 : GoodIn wsL_law wsL_build_r4 := goodIn_r _ [146, 147, 148, 149, 150, 151, 152, 153, 154, 155, 156, 157, 158, 159, 60, 160, 161, 72, 162, 163, 164, 165, 166, 167] (by decide +kernel) (by decide +kernel)
set_option maxRecDepth 20000 in
theorem ggL_law_L_build_c5 : GoodIn wsL_law wsL_build_r5 := goodIn_r _ [168, 169, 170, 171, 172, 173, 28, 174, 175, 176, 27, 177, 52, 178, 179, 180, 181, 182, 183, 184, 185, 186, 187, 188] (by decide +kernel) (by decide +kernel)
set_option maxRecDepth 20000 in
theorem ggL_law_L_build_c6 : GoodIn wsL_law wsL_build_r6 := goodIn_r _ [189, 190, 191, 192, 193, 194, 195, 196, 197, 198, 199, 200, 201, 202, 203, 204, 205, 206, 207, 208, 209, 210, 211, 212] (by decide +kernel) (by decide +kernel)
set_option maxRecDepth 20000 in
theorem ggL_law_L_build_c7 : GoodIn wsL_law wsL_build_r7 := goodIn_r _ [213, 214, 215, 216, 217, 218, 219, 220, 73, 221, 222, 223, 224, 29, 225, 226, 227, 228, 229, 230, 231, 232, 233, 234] (by decide +kernel) (by decide +kernel)
set_option maxRecDepth 20000 in
theorem ggL_law_L_build_c8 : GoodIn wsL_law wsL_build_r8 := goodIn_r _ [235, 236, 237, 238, 239, 240, 241, 242, 243, 244, 245, 246, 247, 248, 249, 250, 251, 252, 253, 254, 255, 256, 24, 257] (by decide +kernel) (by decide +kernel)
set_option maxRecDepth 20000 in
theorem ggL_law_L_build_c9 : GoodIn wsL_law wsL_build_r9 := goodIn_r _ [43, 41, 258, 259, 260, 261, 30, 262, 263, 264, 265, 266, 267, 268, 269, 270, 271, 272, 273, 274, 275, 276, 277, 278] (by decide +kernel) (by decide +kernel)
set_option maxRecDepth 20000 in
theorem ggL_law_L_build_c10 : GoodIn wsL_law wsL_build_r10 := goodIn_r _ [279, 280, 281, 282, 283, 284, 285, 286, 287, 288, 289, 290, 291, 292, 293, 294, 295, 296, 297, 298, 299, 300, 301, 302] (by decide +kernel) (by decide +kernel)
set_option maxRecDepth 20000 in
theorem ggL_law_L_build_c11 : GoodIn wsL_law wsL_build_r11 := goodIn_r _ [303, 304, 305, 306, 307, 308, 309, 310, 311, 312, 313, 314, 315, 316, 317, 318, 319, 320, 321, 322, 33, 323, 324, 325] (by decide +kernel) (by decide +kernel)
set_option maxRecDepth 20000 in
theorem ggL_law_L_build_c12 : GoodIn wsL_law wsL_build_r12 := goodIn_r _ [326, 327, 328, 58, 329, 330, 62, 331, 332, 333, 334, 335, 336, 337, 338, 339, 340, 66, 341, 342, 343, 344, 345, 64] (by decide +kernel) (by decide +kernel)
set_option maxRecDepth 20000 in
theorem ggL_law_L_build_c13 : GoodIn wsL_law wsL_build_r13 := goodIn_r _ [346, 78, 347, 348, 349, 350, 351, 352, 353, 354, 355, 356, 357, 358, 359, 40, 42, 360, 361, 362, 363, 364, 365] (by decide +kernel) (by decide +kernel)
set_option maxRecDepth 20000 in
theorem ggL_law_L_build_c14 : GoodIn wsL_law wsX50 := goodIn_r _ [490, 491, 492, 493, 494, 495, 496, 497, 498] (by decide +kernel) (by decide +kernel)
set_option maxRecDepth 20000 in
theorem ggL_law_L_build_c15 : GoodIn wsL_law wsX70 := goodIn_r _ [519, 520, 521, 522, 523] (by decide +kernel) (by decide +kernel)
set_option maxRecDepth 20000 in
theorem ggL_law_L_build_c16 : GoodIn wsL_law wsX40 := goodIn_r _ [484, 485, 486, 487, 488, 489] (by decide +kernel) (by decide +kernel)
set_option maxRecDepth 20000 in
theorem ggL_law_L_build_c17 : GoodIn wsL_law wsX30 := goodIn_r _ [504, 505, 506, 507, 508, 509, 510, 511] (by decide +kernel) (by decide +kernel)
set_option maxRecDepth 20000 in
theorem ggL_law_L_build_c18 : GoodIn wsL_law wsX10 := goodIn_r _ [512, 513, 514, 515] (by decide +kernel) (by decide +kernel)
set_option maxRecDepth 20000 in
theorem ggL_law_L_build_c19 : GoodIn wsL_law wsX00 := goodIn_r _ [516, 517, 518] (by decide +kernel) (by decide +kernel)
set_option maxRecDepth 20000 in
theorem ggL_law_L_build_c20 : GoodIn wsL_law wsX60 := goodIn_r _ [503] (by decide +kernel) (by decide +kernel)
set_option maxRecDepth 20000 in
theorem ggL_law_L_build_c21 : GoodIn wsL_law wsX20 := goodIn_r _ [499, 500, 501, 502] (by decide +kernel) (by decide +kernel)
set_option maxRecDepth 20000 in
theorem ggL_law_L_build : GoodIn wsL_law wsL_build := goodIn_ca (goodIn_ca (goodIn_ca (goodIn_ca (goodIn_ca (goodIn_ca (goodIn_ca (goodIn_ca (goodIn_ca (goodIn_ca (goodIn_ca (goodIn_c1 ggL_law_L_build_c0 (goodIn_app ggL_law_L_build_c1 (goodIn_app ggL_law_L_build_c2 (goodIn_app ggL_law_L_build_c3 (goodIn_app ggL_law_L_build_c4 (goodIn_app ggL_law_L_build_c5 (goodIn_app ggL_law_L_build_c6 (goodIn_app ggL_law_L_build_c7 (goodIn_app ggL_law_L_build_c8 (goodIn_app ggL_law_L_build_c9 (goodIn_app ggL_law_L_build_c10 (goodIn_app ggL_law_L_build_c11 (goodIn_app ggL_law_L_build_c12 (ggL_law_L_build_c13)))))))))))))) ggL_law_L_build_c14) ggL_law_L_build_c15) ggL_law_L_build_c16) ggL_law_L_build_c17) ggL_law_L_build_c18) ggL_law_L_build_c19) ggL_law_L_build_c20) ggL_law_L_build_c21) (goodIn_sub (fun _ h => List.mem_append_left _ (List.mem_append_left _ (List.mem_append_right _ h))) (by decide +kernel))) (goodIn_sub (fun _ h => List.mem_append_left _ (List.mem_append_right _ h)) (by decide +kernel))) (goodIn_sub (fun _ h => List.mem_append_right _ h) (by decide +kernel))
set_option maxRecDepth 20000 in
theorem gL_law_L_build : GoodIn wsL_law (va_wsS RL 135 yL_build wsL_build) := goodIn_app (goodIn_of _ (by decide +kernel)) ggL_law_L_build
set_option maxRecDepth 20000 in
theorem ggL_law_L_cell : GoodIn wsL_law wsL_cell := goodIn_r _ [101, 102] (by decide +kernel) (by decide +kernel)
set_option maxRecDepth 20000 in
theorem gL_law_L_cell : GoodIn wsL_law (va_wsS RL 126 yL_cell wsL_cell) := goodIn_app (goodIn_of _ (by decide +kernel)) ggL_law_L_cell
set_option maxRecDepth 20000 in
theorem ggL_law_X4_told : GoodIn wsL_law wsX4_told := goodIn_ca (goodIn_r _ [369, 147, 148, 28, 34, 275, 29, 30, 144, 145, 2, 146, 149, 150, 151, 178, 179, 180, 27, 181, 52, 370, 371, 372, 33, 373, 328, 58, 341, 374, 484, 485, 486, 487, 488, 489, 504, 505, 506, 507, 508, 509, 510, 511, 503, 512, 513, 514, 515] (by decide +kernel) (by decide +kernel)) (goodIn_sub (fun _ h => List.mem_append_left _ (List.mem_append_right _ h)) (by decide +kernel))
set_option maxRecDepth 20000 in
theorem gL_law_X4_told : GoodIn wsL_law (wsV RL 139 RX4 yX4_told wsX4_told) := goodIn_app (goodIn_of _ (by decide +kernel)) ggL_law_X4_told
set_option maxRecDepth 20000 in
theorem ggL_law_X4_count : GoodIn wsL_law wsX4_count := goodIn_ca (goodIn_r _ [378, 147, 148, 34, 379, 142, 167, 28, 29, 30, 186, 191, 276, 277, 278, 27, 279, 52, 380, 381, 382, 33, 383, 66, 328, 58, 67, 374, 384, 385, 386, 387, 60, 388, 162, 229, 230, 231, 232, 73, 484, 485, 486, 487, 488, 489, 504, 505, 506, 507, 508, 509, 510, 511, 503, 512, 513, 514, 515] (by decide +kernel) (by decide +kernel)) (goodIn_sub (fun _ h => List.mem_append_left _ (List.mem_append_right _ h)) (by decide +kernel))
set_option maxRecDepth 20000 in
theorem gL_law_X4_count : GoodIn wsL_law (wsV RL 142 RX4 yX4_count wsX4_count) := goodIn_app (goodIn_of _ (by decide +kernel)) ggL_law_X4_count
set_option maxRecDepth 20000 in
theorem ggL_law_L_below : GoodIn wsL_law wsL_below := goodIn_r _ [105, 106] (by decide +kernel) (by decide +kernel)
set_option maxRecDepth 20000 in
theorem gL_law_L_below : GoodIn wsL_law (va_wsS RL 15 yL_below wsL_below) := goodIn_app (goodIn_of _ (by decide +kernel)) ggL_law_L_below
