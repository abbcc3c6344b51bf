set_option maxRecDepth 20000 in
theorem ggL_law_L_act_c0 : GoodIn wsL_law [Cond.code yL_act cL_act 26 (some .boolean)] := goodIn_r _ [109] rfl (by decide +kernel)
set_option maxRecDepth 20000 in
theorem ggL_law_L_act_c1 : GoodIn wsL_law wsL_act_r1 := goodIn_r _ [110, 111, 112, 113, 114, 115, 116, 10, 3, 4, 117, 118, 119, 120, 121, 122, 13, 123, 124, 125, 126, 103, 104, 82] (by decide +kernel) (by decide +kernel)
set_option maxRecDepth 20000 in
theorem ggL_law_L_act_c2 : GoodIn wsL_law wsL_act_r2 := goodIn_r _ [105, 106, 127, 128, 129, 130, 19, 20, 131, 132, 133, 134, 135, 136, 137, 138, 2, 139, 140, 141, 34, 142, 143, 22] (by decide +kernel) (by decide +kernel)
set_option maxRecDepth 20000 in
theorem ggL_law_L_act_c3 : GoodIn wsL_law wsL_act_r3 := goodIn_r _ [144, 145, 146, 147, 148, 149, 150, 151, 152, 153, 154, 155, 156, 157, 158, 159, 60, 160, 161, 72, 162, 163, 164, 165] (by decide +kernel) (by decide +kernel)
set_option maxRecDepth 20000 in
theorem ggL_law_L_act_c4 : GoodIn wsL_law wsL_act_r4 := goodIn_r _ [166, 167, 168, 169, 170, 171, 172, 173, 28, 174, 175, 176, 27, 177, 52, 178, 179, 180, 181, 182, 183, 184, 185, 186] (by decide +kernel) (by decide +kernel)
set_option maxRecDepth 20000 in
theorem ggL_law_L_act_c5 : GoodIn wsL_law wsL_act_r5 := goodIn_r _ [187, 188, 189, 190, 191, 192, 193, 194, 195, 196, 197, 198, 199, 200, 201, 202, 203, 204, 205, 206, 207, 208, 209, 210] (by decide +kernel) (by decide +kernel)
set_option maxRecDepth 20000 in
theorem ggL_law_L_act_c6 : GoodIn wsL_law wsL_act_r6 := goodIn_r _ [211, 212, 213, 214, 215, 216, 217, 218, 219, 220, 73, 221, 222, 223, 224, 29, 225, 226, 227, 228, 229, 230, 231, 232] (by decide +kernel) (by decide +kernel)
set_option maxRecDepth 20000 in
theorem ggL_law_L_act_c7 : GoodIn wsL_law wsL_act_r7 := goodIn_r _ [233, 234, 235, 236, 237, 238, 239, 240, 241, 242, 243, 244, 245, 246, 247, 248, 249, 250, 251, 252, 253, 254, 255, 256] (by decide +kernel) (by decide +kernel)
set_option maxRecDepth 20000 in
theorem ggL_law_L_act_c8 : GoodIn wsL_law wsL_act_r8 := goodIn_r _ [24, 257, 43, 41, 258, 259, 260, 261, 30, 262, 263, 264, 265, 266, 267, 268, 269, 270, 271, 272, 273, 274, 275, 276] (by decide +kernel) (by decide +kernel)
set_option maxRecDepth 20000 in
theorem ggL_law_L_act_c9 : GoodIn wsL_law wsL_act_r9 := goodIn_r _ [277, 278, 279, 280, 281, 282, 283, 284, 285, 286, 287, 288, 289, 290, 291, 86, 292, 91, 92, 93, 94, 96, 293, 90] (by decide +kernel) (by decide +kernel)
set_option maxRecDepth 20000 in
theorem ggL_law_L_act_c10 : GoodIn wsL_law wsL_act_r10 := goodIn_r _ [294, 98, 295, 296, 297, 298, 299, 300, 301, 302, 303, 304, 305, 306, 307, 308, 309, 310, 311, 312, 313, 314, 315, 316] (by decide +kernel) (by decide +kernel)
set_option maxRecDepth 20000 in
theorem ggL_law_L_act_c11 : GoodIn wsL_law wsL_act_r11 := goodIn_r _ [317, 318, 319, 320, 321, 322, 33, 323, 324, 325, 326, 327, 328, 58, 329, 330, 62, 331, 332, 333, 334, 335, 336, 337] (by decide +kernel) (by decide +kernel)
set_option maxRecDepth 20000 in
theorem ggL_law_L_act_c12 : GoodIn wsL_law wsL_act_r12 := goodIn_r _ [338, 339, 340, 66, 341, 342, 343, 344, 345, 64, 346, 78, 347, 348, 349, 350, 351, 352, 353, 354, 355, 356, 357, 358] (by decide +kernel) (by decide +kernel)
set_option maxRecDepth 20000 in
theorem ggL_law_L_act_c13 : GoodIn wsL_law wsL_act_r13 := goodIn_r _ [359, 40, 42, 360, 361, 362, 363, 364, 365] (by decide +kernel) (by decide +kernel)
set_option maxRecDepth 20000 in
theorem ggL_law_L_act_c14 : GoodIn wsL_law wsX50 := goodIn_r _ [490, 491, 492, 493, 494, 495, 496, 497, 498] (by decide +kernel) (by decide +kernel)
set_option maxRecDepth 20000 in
theorem ggL_law_L_act_c15 : GoodIn wsL_law wsX70 := goodIn_r _ [519, 520, 521, 522, 523] (by decide +kernel) (by decide +kernel)
set_option maxRecDepth 20000 in
theorem ggL_law_L_act_c16 : GoodIn wsL_law wsX40 := goodIn_r _ [484, 485, 486, 487, 488, 489] (by decide +kernel) (by decide +kernel)
set_option maxRecDepth 20000 in
theorem ggL_law_L_act_c17 : GoodIn wsL_law wsX30 := goodIn_r _ [504, 505, 506, 507, 508, 509, 510, 511] (by decide +kernel) (by decide +kernel)
set_option maxRecDepth 20000 in
theorem ggL_law_L_act_c18 : GoodIn wsL_law wsX10 := goodIn_r _ [512, 513, 514, 515] (by decide +kernel) (by decide +kernel)
set_option maxRecDepth 20000 in
theorem ggL_law_L_act_c19 : GoodIn wsL_law wsX00 := goodIn_r _ [516, 517, 518] (by decide +kernel) (by decide +kernel)
set_option maxRecDepth 20000 in
theorem ggL_law_L_act_c20 : GoodIn wsL_law wsX60 := goodIn_r _ [503] (by decide +kernel) (by decide +kernel)
set_option maxRecDepth 20000 in
theorem ggL_law_L_act_c21 : GoodIn wsL_law wsX20 := goodIn_r _ [499, 500, 501, 502] (by decide +kernel) (by decide +kernel)
set_option maxRecDepth 20000 in
theorem ggL_law_L_act : GoodIn wsL_law wsL_act := goodIn_ca (goodIn_ca (goodIn_ca (goodIn_ca (goodIn_ca (goodIn_ca (goodIn_ca (goodIn_ca (goodIn_ca (goodIn_ca (goodIn_ca (goodIn_c1 ggL_law_L_act_c0 (goodIn_app ggL_law_L_act_c1 (goodIn_app ggL_law_L_act_c2 (goodIn_app ggL_law_L_act_c3 (goodIn_app ggL_law_L_act_c4 (goodIn_app ggL_law_L_act_c5 (goodIn_app ggL_law_L_act_c6 (goodIn_app ggL_law_L_act_c7 (goodIn_app ggL_law_L_act_c8 (goodIn_app ggL_law_L_act_c9 (goodIn_app ggL_law_L_act_c10 (goodIn_app ggL_law_L_act_c11 (goodIn_app ggL_law_L_act_c12 (ggL_law_L_act_c13)))))))))))))) ggL_law_L_act_c14) ggL_law_L_act_c15) ggL_law_L_act_c16) ggL_law_L_act_c17) ggL_law_L_act_c18) ggL_law_L_act_c19) ggL_law_L_act_c20) ggL_law_L_act_c21) (goodIn_sub (fun _ h => List.mem_append_left _ (List.mem_append_left _ (List.mem_append_right _ h))) (by decide +kernel))) (goodIn_sub (fun _ h => List.mem_append_left _ (List.mem_append_right _ h)) (by decide +kernel))) (goodIn_sub (fun _ h => List.mem_append_right _ h) (by decide +kernel))
set_option maxRecDepth 20000 in
theorem gL_law_L_act : GoodIn wsL_law (va_wsS RL 130 yL_act wsL_act) := goodIn_app (goodIn_of _ (by decide +kernel)) ggL_law_L_act
set_option maxRecDepth 20000 in
theorem ggL_law_X4_about : GoodIn wsL_law wsX4_about := goodIn_ca (goodIn_r _ [392, 147, 148, 34, 143, 201, 393, 394, 202, 395, 191, 203, 204, 205, 2, 206, 142, 149, 150, 151, 396, 357, 358, 24, 359, 40, 42, 397, 361, 362, 363, 398, 399, 400, 60, 401, 162, 250, 251, 252, 253, 72, 254, 255, 256, 257, 43, 41, 402, 386, 387, 388, 229, 230, 231, 232, 73, 403, 404, 405, 406, 407, 12, 13, 14, 408, 409, 410, 411, 484, 485, 486, 487, 488, 489, 504, 505, 506, 507, 508, 509, 510, 511, 512, 513, 514, 515, 499, 500, 501, 502] (by decide +kernel) (by decide +kernel)) (goodIn_sub (fun _ h => List.mem_append_left _ (List.mem_append_right _ h)) (by decide +kernel))
set_option maxRecDepth 20000 in
theorem gL_law_X4_about : GoodIn wsL_law (wsV RL 149 RX4 yX4_about wsX4_about) := goodIn_app (goodIn_of _ (by decide +kernel)) ggL_law_X4_about
set_option maxRecDepth 20000 in
theorem ggL_law_X4_room : GoodIn wsL_law wsX4_room := goodIn_ca (goodIn_r _ [415, 152, 153, 2, 154, 155, 156, 149, 150, 151, 416, 46, 24, 47] (by decide +kernel) (by decide +kernel)) (goodIn_sub (fun _ h => List.mem_append_right _ h) (by decide +kernel))
set_option maxRecDepth 20000 in
theorem gL_law_X4_room : GoodIn wsL_law (wsV RL 152 RX4 yX4_room wsX4_room) := goodIn_app (goodIn_of _ (by decide +kernel)) ggL_law_X4_room
set_option maxRecDepth 20000 in
theorem ggL_law_X4_ball : GoodIn wsL_law wsX4_ball := goodIn_ca (goodIn_r _ [420, 147, 148, 34, 143, 202, 393, 203, 204, 205, 2, 206, 142, 149, 150, 151, 421, 230, 231, 60, 232, 73, 422, 423, 424, 24, 425, 426, 361, 362, 363, 40, 42, 427, 428, 429, 430, 431, 432, 433, 434, 435, 41, 436, 437, 438, 439, 440, 251, 252, 253, 72, 162, 254, 255, 256, 257, 43, 441, 442, 443, 444, 445, 407, 12, 13, 14, 249, 122, 123, 446, 447, 448, 449, 450, 451, 452, 484, 485, 486, 487, 488, 489, 504, 505, 506, 507, 508, 509, 510, 511, 512, 513, 514, 515, 499, 500, 501, 502] (by decide +kernel) (by decide +kernel)) (goodIn_sub (fun _ h => List.mem_append_left _ (List.mem_append_right _ h)) (by decide +kernel))
set_option maxRecDepth 20000 in
theorem gL_law_X4_ball : GoodIn wsL_law (wsV RL 155 RX4 yX4_ball wsX4_ball) := goodIn_app (goodIn_of _ (by decide +kernel)) ggL_law_X4_ball
set_option maxRecDepth 20000 in
theorem ggL_law_X4_at : GoodIn wsL_law wsX4_at := goodIn_ca (goodIn_r _ [456, 147, 148, 34, 143, 393, 394, 202, 203, 204, 205, 2, 206, 142, 149, 150, 151, 457, 450, 451, 24, 452, 40, 432, 433, 434, 435, 42, 41, 484, 485, 486, 487, 488, 489, 504, 505, 506, 507, 508, 509, 510, 511, 512, 513, 514, 515, 499, 500, 501, 502] (by decide +kernel) (by decide +kernel)) (goodIn_sub (fun _ h => List.mem_append_left _ (List.mem_append_right _ h)) (by decide +kernel))
set_option maxRecDepth 20000 in
theorem gL_law_X4_at : GoodIn wsL_law (wsV RL 159 RX4 yX4_at wsX4_at) := goodIn_app (goodIn_of _ (by decide +kernel)) ggL_law_X4_at
set_option maxRecDepth 20000 in
theorem ggL_law_X5_isSame_c0 : GoodIn wsL_law [Cond.code yX5_isSame cX5_isSame 14 (some .boolean)] := goodIn_r _ [461] rfl (by decide +kernel)
set_option maxRecDepth 20000 in
theorem ggL_law_X5_isSame_c1 : GoodIn wsL_law wsX5_isSame_r1 := goodIn_r _ [96, 310, 293, 3, 91, 92, 93, 94, 309, 462, 12, 13, 14, 463, 464, 90, 98, 465, 376, 377, 2, 378, 147, 148] (by decide +kernel) (by decide +kernel)
set_option maxRecDepth 20000 in
theorem ggL_law_X5_isSame_c2 : GoodIn wsL_law wsX5_isSame_r2 := goodIn_r _ [34, 379, 142, 167, 28, 29, 30, 186, 191, 276, 277, 278, 27, 279, 52, 380, 381, 382, 33, 383, 66, 328, 58, 67] (by decide +kernel) (by decide +kernel)
set_option maxRecDepth 20000 in
theorem ggL_law_X5_isSame_c3 : GoodIn wsL_law wsX5_isSame_r3 := goodIn_r _ [374, 384, 385, 386, 387, 60, 388, 162, 229, 230, 231, 232, 73, 466, 290, 291, 86, 292, 294, 295, 296, 297, 298, 113] (by decide +kernel) (by decide +kernel)
set_option maxRecDepth 20000 in
theorem ggL_law_X5_isSame_c4 : GoodIn wsL_law wsX5_isSame_r4 := goodIn_r _ [299, 196, 133, 467, 367, 368, 369, 275, 144, 145, 146, 149, 150, 151, 178, 179, 180, 181, 370, 371, 372, 373, 341, 311] (by decide +kernel) (by decide +kernel)
set_option maxRecDepth 20000 in
theorem ggL_law_X5_isSame_c5 : GoodIn wsL_law wsX5_isSame_r5 := goodIn_r _ [234, 235, 236, 237, 238, 239, 240, 135, 468, 418, 419, 420, 143, 202, 393, 203, 204, 205, 206, 421, 422, 423, 424, 24] (by decide +kernel) (by decide +kernel)
set_option maxRecDepth 20000 in
theorem ggL_law_X5_isSame_c6 : GoodIn wsL_law wsX5_isSame_r6 := goodIn_r _ [425, 426, 361, 362, 363, 40, 42, 427, 428, 429, 430, 431, 432, 433, 434, 435, 41, 436, 437, 438, 439, 440, 251, 252] (by decide +kernel) (by decide +kernel)
set_option maxRecDepth 20000 in
theorem ggL_law_X5_isSame_c7 : GoodIn wsL_law wsX5_isSame_r7 := goodIn_r _ [253, 72, 254, 255, 256, 257, 43, 441, 442, 443, 444, 445, 407, 249, 122, 123, 446, 447, 448, 449, 450, 451, 452, 469] (by decide +kernel) (by decide +kernel)
set_option maxRecDepth 20000 in
theorem ggL_law_X5_isSame_c8 : GoodIn wsL_law wsX5_isSame_r8 := goodIn_r _ [454, 455, 456, 394, 457, 470, 471, 472, 473, 312, 313, 314, 315, 474, 390, 391, 392, 201, 395, 396, 357, 358, 359, 397] (by decide +kernel) (by decide +kernel)
set_option maxRecDepth 20000 in
theorem ggL_law_X5_isSame_c9 : GoodIn wsL_law wsX5_isSame_r9 := goodIn_r _ [398, 399, 400, 401, 250, 402, 403, 404, 405, 406, 408, 409, 410, 411, 475, 476, 477, 478, 168, 169, 284, 479, 285, 286] (by decide +kernel) (by decide +kernel)
set_option maxRecDepth 20000 in
theorem ggL_law_X5_isSame_c10 : GoodIn wsL_law wsX5_isSame_r10 := goodIn_r _ [287, 288, 480, 481, 482, 483] (by decide +kernel) (by decide +kernel)
set_option maxRecDepth 20000 in
theorem ggL_law_X5_isSame_c11 : GoodIn wsL_law wsX50 := goodIn_r _ [490, 491, 492, 493, 494, 495, 496, 497, 498] (by decide +kernel) (by decide +kernel)
set_option maxRecDepth 20000 in
theorem ggL_law_X5_isSame_c12 : GoodIn wsL_law wsX70 := goodIn_r _ [519, 520, 521, 522, 523] (by decide +kernel) (by decide +kernel)
set_option maxRecDepth 20000 in
theorem ggL_law_X5_isSame_c13 : GoodIn wsL_law wsX40 := goodIn_r _ [484, 485, 486, 487, 488, 489] (by decide +kernel) (by decide +kernel)
set_option maxRecDepth 20000 in
theorem ggL_law_X5_isSame_c14 : GoodIn wsL_law wsX30 := goodIn_r _ [504, 505, 506, 507, 508, 509, 510, 511] (by decide +kernel) (by decide +kernel)
set_option maxRecDepth 20000 in
theorem ggL_law_X5_isSame_c15 : GoodIn wsL_law wsX60 := goodIn_r _ [503] (by decide +kernel) (by decide +kernel)
set_option maxRecDepth 20000 in
theorem ggL_law_X5_isSame_c16 : GoodIn wsL_law wsX10 := goodIn_r _ [512, 513, 514, 515] (by decide +kernel) (by decide +kernel)
set_option maxRecDepth 20000 in
theorem ggL_law_X5_isSame_c17 : GoodIn wsL_law wsX20 := goodIn_r _ [499, 500, 501, 502] (by decide +kernel) (by decide +kernel)
set_option maxRecDepth 20000 in
theorem ggL_law_X5_isSame_c18 : GoodIn wsL_law wsX00 := goodIn_r _ [516, 517, 518] (by decide +kernel) (by decide +kernel)
set_option maxRecDepth 20000 in
theorem ggL_law_X5_isSame : GoodIn wsL_law wsX5_isSame := goodIn_ca (goodIn_ca (goodIn_ca (goodIn_ca (goodIn_ca (goodIn_ca (goodIn_ca (goodIn_ca (goodIn_ca (goodIn_c1 ggL_law_X5_isSame_c0 (goodIn_app ggL_law_X5_isSame_c1 (goodIn_app ggL_law_X5_isSame_c2 (goodIn_app ggL_law_X5_isSame_c3 (goodIn_app ggL_law_X5_isSame_c4 (goodIn_app ggL_law_X5_isSame_c5 (goodIn_app ggL_law_X5_isSame_c6 (goodIn_app ggL_law_X5_isSame_c7 (goodIn_app ggL_law_X5_isSame_c8 (goodIn_app ggL_law_X5_isSame_c9 (ggL_law_X5_isSame_c10))))))))))) ggL_law_X5_isSame_c11) ggL_law_X5_isSame_c12) ggL_law_X5_isSame_c13) ggL_law_X5_isSame_c14) ggL_law_X5_isSame_c15) ggL_law_X5_isSame_c16) ggL_law_X5_isSame_c17) ggL_law_X5_isSame_c18) (goodIn_sub (fun _ h => List.mem_append_left _ (List.mem_append_right _ h)) (by decide +kernel))
set_option maxRecDepth 20000 in
theorem gL_law_X5_isSame : GoodIn wsL_law (wsV RL 166 RX5 yX5_isSame wsX5_isSame) := goodIn_app (goodIn_of _ (by decide +kernel)) ggL_law_X5_isSame
