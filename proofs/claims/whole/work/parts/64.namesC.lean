set_option maxRecDepth 20000 in
theorem ggL_law_X4_init : GoodIn wsL_law wsX4_init := goodIn_r _ [9, 10, 11, 12, 13, 14, 15, 16, 17, 18, 19, 20, 21, 22, 23, 24, 25, 26, 27, 28, 29, 30, 31, 32, 33, 34, 35, 36, 37, 38, 39, 40, 41, 42, 43, 44, 45, 46, 47, 48, 49, 50, 51, 52, 53, 54, 55, 56, 57, 58, 59, 60, 61, 62, 63, 64, 65, 712, 713, 714, 715, 716, 717, 737, 738, 739, 740, 741, 742, 743, 744, 745, 746, 747, 748, 749, 750, 751, 752, 753, 754, 755] (by decide +kernel) (by decide +kernel)
set_option maxRecDepth 20000 in
theorem gL_law_X4_init : GoodIn wsL_law (wsX4_init) := ggL_law_X4_init
set_option maxRecDepth 20000 in
theorem ggL_law_X5_init : GoodIn wsL_law wsX5_init := goodIn_r _ [68, 69, 11, 12, 70, 17, 71, 72, 73, 74, 75, 76, 77, 78, 79, 80, 81, 82, 83, 718, 719, 720, 721, 722, 723, 724, 725, 726, 727, 728, 729, 730, 731, 732, 733, 734, 735, 736] (by decide +kernel) (by decide +kernel)
set_option maxRecDepth 20000 in
theorem gL_law_X5_init : GoodIn wsL_law (wsX5_init) := ggL_law_X5_init
set_option maxRecDepth 20000 in
theorem ggL_law_L_pile : GoodIn wsL_law wsL_pile := goodIn_ca (goodIn_ca (goodIn_ca (goodIn_r _ [87, 88, 89, 90, 91, 92, 93, 2, 94, 95, 96, 24, 97, 98, 14, 99, 100, 101, 102, 103, 104, 105, 106, 107, 108, 109, 110, 111, 112, 113, 114, 48, 115, 116, 59, 117, 712, 713, 714, 715, 716, 717, 741, 742, 743, 744, 745, 746, 747, 748, 749, 750, 751, 752] (by decide +kernel) (by decide +kernel)) (goodIn_sub (fun _ h => List.mem_append_left _ (List.mem_append_left _ (List.mem_append_right _ h))) (by decide +kernel))) (goodIn_sub (fun _ h => List.mem_append_left _ (List.mem_append_right _ h)) (by decide +kernel))) (goodIn_sub (fun _ h => List.mem_append_right _ h) (by decide +kernel))
set_option maxRecDepth 20000 in
theorem gL_law_L_pile : GoodIn wsL_law (va_wsS RL 92 yL_pile wsL_pile) := goodIn_app (goodIn_of _ (by decide +kernel)) ggL_law_L_pile
set_option maxRecDepth 20000 in
theorem ggL_law_X5_pile : GoodIn wsL_law wsX5_pile := goodIn_r _ [121, 122, 123, 71, 72, 124, 125, 5, 126, 127, 128, 129, 130, 131, 132, 133, 718, 719, 720, 721, 722, 723, 724, 725, 726, 727, 728, 729, 730, 731, 732, 733, 734, 735, 736] (by decide +kernel) (by decide +kernel)
set_option maxRecDepth 20000 in
theorem gL_law_X5_pile : GoodIn wsL_law (wsV RL 97 RX5 yX5_pile wsX5_pile) := goodIn_app (goodIn_of _ (by decide +kernel)) ggL_law_X5_pile
set_option maxRecDepth 20000 in
theorem ggL_law_X5_thrown : GoodIn wsL_law wsX5_thrown := goodIn_r _ [137, 122, 718, 719, 720, 721, 722, 723, 724, 725, 726, 727, 728, 729, 730, 731, 732, 733, 734, 735, 736] (by decide +kernel) (by decide +kernel)
set_option maxRecDepth 20000 in
theorem gL_law_X5_thrown : GoodIn wsL_law (wsV RL 98 RX5 yX5_thrown wsX5_thrown) := goodIn_app (goodIn_of _ (by decide +kernel)) ggL_law_X5_thrown
set_option maxRecDepth 20000 in
theorem ggL_law_L_cat : GoodIn wsL_law wsL_cat := goodIn_ca (goodIn_ca (goodIn_r _ [140, 89, 90, 141, 142, 143, 2, 144, 95, 96, 24, 145, 146, 147, 107, 108, 109, 110, 111, 104, 105, 106, 712, 713, 714, 715, 716, 717, 741, 742, 743, 744, 745, 746, 747, 748, 753, 754, 755] (by decide +kernel) (by decide +kernel)) (goodIn_sub (fun _ h => List.mem_append_left _ (List.mem_append_left _ (List.mem_append_right _ h))) (by decide +kernel))) (goodIn_sub (fun _ h => List.mem_append_right _ h) (by decide +kernel))
set_option maxRecDepth 20000 in
theorem gL_law_L_cat : GoodIn wsL_law (va_wsS RL 102 yL_cat wsL_cat) := goodIn_app (goodIn_of _ (by decide +kernel)) ggL_law_L_cat
set_option maxRecDepth 20000 in
theorem ggL_law_X5_cat : GoodIn wsL_law wsX5_cat := goodIn_r _ [151, 122, 152, 73, 77, 127, 128, 5, 129, 130, 131, 132, 133, 718, 719, 720, 721, 722, 723, 724, 725, 726, 727, 728, 729, 730, 731, 732, 733, 734, 735, 736] (by decide +kernel) (by decide +kernel)
set_option maxRecDepth 20000 in
theorem gL_law_X5_cat : GoodIn wsL_law (wsV RL 105 RX5 yX5_cat wsX5_cat) := goodIn_app (goodIn_of _ (by decide +kernel)) ggL_law_X5_cat
set_option maxRecDepth 20000 in
theorem ggL_law_L_give : GoodIn wsL_law wsL_give := goodIn_ca (goodIn_ca (goodIn_r _ [155, 88, 89, 156, 157, 158, 2, 159, 18, 99, 100, 101, 102, 103, 104, 105, 106, 107, 108, 109, 110, 111, 712, 713, 714, 715, 716, 717] (by decide +kernel) (by decide +kernel)) (goodIn_sub (fun _ h => List.mem_append_left _ (List.mem_append_right _ h)) (by decide +kernel))) (goodIn_sub (fun _ h => List.mem_append_right _ h) (by decide +kernel))
set_option maxRecDepth 20000 in
theorem gL_law_L_give : GoodIn wsL_law (va_wsS RL 106 yL_give wsL_give) := goodIn_app (goodIn_of _ (by decide +kernel)) ggL_law_L_give
set_option maxRecDepth 20000 in
theorem ggL_law_X5_give : GoodIn wsL_law wsX5_give := goodIn_r _ [163, 122, 76, 124, 125, 5, 126, 127, 128, 129, 130, 131, 132, 133, 164, 165, 166, 167, 718, 719, 720, 721, 722, 723, 724, 725, 726, 727, 728, 729, 730, 731, 732, 733, 734, 735, 736] (by decide +kernel) (by decide +kernel)
set_option maxRecDepth 20000 in
theorem gL_law_X5_give : GoodIn wsL_law (wsV RL 108 RX5 yX5_give wsX5_give) := goodIn_app (goodIn_of _ (by decide +kernel)) ggL_law_X5_give
set_option maxRecDepth 20000 in
theorem ggL_law_L_setRain : GoodIn wsL_law wsL_setRain := goodIn_ca (goodIn_r _ [170, 89, 171, 172, 173, 2, 174, 24, 175, 107, 108, 109, 110, 111, 104, 105, 106, 712, 713, 714, 715, 716, 717, 741, 742, 743, 744, 745, 746, 747, 748] (by decide +kernel) (by decide +kernel)) (goodIn_sub (fun _ h => List.mem_append_right _ h) (by decide +kernel))
set_option maxRecDepth 20000 in
theorem gL_law_L_setRain : GoodIn wsL_law (va_wsS RL 109 yL_setRain wsL_setRain) := goodIn_app (goodIn_of _ (by decide +kernel)) ggL_law_L_setRain
set_option maxRecDepth 20000 in
theorem ggL_law_X5_setRain : GoodIn wsL_law wsX5_setRain := goodIn_r _ [179, 122, 180, 127, 128, 5, 129, 130, 131, 132, 133, 718, 719, 720, 721, 722, 723, 724, 725, 726, 727, 728, 729, 730, 731, 732, 733, 734, 735, 736] (by decide +kernel) (by decide +kernel)
set_option maxRecDepth 20000 in
theorem gL_law_X5_setRain : GoodIn wsL_law (wsV RL 111 RX5 yX5_setRain wsX5_setRain) := goodIn_app (goodIn_of _ (by decide +kernel)) ggL_law_X5_setRain
set_option maxRecDepth 20000 in
theorem ggL_law_L_setLimit : GoodIn wsL_law wsL_setLimit := goodIn_ca (goodIn_r _ [183, 89, 184, 185, 186, 2, 187, 24, 188, 107, 108, 109, 110, 111, 104, 105, 106, 712, 713, 714, 715, 716, 717, 741, 742, 743, 744, 745, 746, 747, 748] (by decide +kernel) (by decide +kernel)) (goodIn_sub (fun _ h => List.mem_append_right _ h) (by decide +kernel))
set_option maxRecDepth 20000 in
theorem gL_law_L_setLimit : GoodIn wsL_law (va_wsS RL 112 yL_setLimit wsL_setLimit) := goodIn_app (goodIn_of _ (by decide +kernel)) ggL_law_L_setLimit
set_option maxRecDepth 20000 in
theorem ggL_law_X5_setLimit : GoodIn wsL_law wsX5_setLimit := goodIn_r _ [192, 122, 70, 127, 128, 5, 129, 130, 131, 132, 133, 718, 719, 720, 721, 722, 723, 724, 725, 726, 727, 728, 729, 730, 731, 732, 733, 734, 735, 736] (by decide +kernel) (by decide +kernel)
set_option maxRecDepth 20000 in
theorem gL_law_X5_setLimit : GoodIn wsL_law (wsV RL 114 RX5 yX5_setLimit wsX5_setLimit) := goodIn_app (goodIn_of _ (by decide +kernel)) ggL_law_X5_setLimit
set_option maxRecDepth 20000 in
theorem ggL_law_L_stack : GoodIn wsL_law wsL_stack := goodIn_ca (goodIn_ca (goodIn_ca (goodIn_r _ [195, 88, 89, 90, 196, 197, 198, 2, 199, 95, 96, 24, 98, 18, 200, 201, 202, 203, 204, 205, 102, 103, 97, 104, 105, 106, 107, 108, 109, 110, 111, 206, 207, 208, 48, 209, 59, 210, 117, 211, 212, 213, 214, 60, 712, 713, 714, 715, 716, 717, 741, 742, 743, 744, 745, 746, 747, 748, 749, 750, 751, 752, 737, 738, 739, 740] (by decide +kernel) (by decide +kernel)) (goodIn_sub (fun _ h => List.mem_append_left _ (List.mem_append_left _ (List.mem_append_right _ h))) (by decide +kernel))) (goodIn_sub (fun _ h => List.mem_append_left _ (List.mem_append_right _ h)) (by decide +kernel))) (goodIn_sub (fun _ h => List.mem_append_right _ h) (by decide +kernel))
set_option maxRecDepth 20000 in
theorem gL_law_L_stack : GoodIn wsL_law (va_wsS RL 115 yL_stack wsL_stack) := goodIn_app (goodIn_of _ (by decide +kernel)) ggL_law_L_stack
set_option maxRecDepth 20000 in
theorem ggL_law_X5_stack : GoodIn wsL_law wsX5_stack := goodIn_r _ [218, 122, 71, 74, 219, 220, 221, 5, 222, 123, 127, 128, 129, 130, 131, 132, 133, 223, 224, 225, 226, 76, 227, 228, 229, 230, 72, 231, 232, 233, 164, 165, 166, 167, 234, 235, 236, 237, 75, 718, 719, 720, 721, 722, 723, 724, 725, 726, 727, 728, 729, 730, 731, 732, 733, 734, 735, 736] (by decide +kernel) (by decide +kernel)
set_option maxRecDepth 20000 in
theorem gL_law_X5_stack : GoodIn wsL_law (wsV RL 117 RX5 yX5_stack wsX5_stack) := goodIn_app (goodIn_of _ (by decide +kernel)) ggL_law_X5_stack
set_option maxRecDepth 20000 in
theorem ggL_law_L_fire : GoodIn wsL_law wsL_fire := goodIn_ca (goodIn_ca (goodIn_ca (goodIn_r _ [240, 88, 89, 90, 241, 242, 243, 2, 244, 95, 96, 24, 98, 201, 19, 200, 202, 203, 204, 205, 102, 103, 97, 104, 105, 106, 107, 108, 109, 110, 111, 245, 246, 247, 48, 248, 117, 60, 712, 713, 714, 715, 716, 717, 741, 742, 743, 744, 745, 746, 747, 748, 749, 750, 751, 752] (by decide +kernel) (by decide +kernel)) (goodIn_sub (fun _ h => List.mem_append_left _ (List.mem_append_left _ (List.mem_append_right _ h))) (by decide +kernel))) (goodIn_sub (fun _ h => List.mem_append_left _ (List.mem_append_right _ h)) (by decide +kernel))) (goodIn_sub (fun _ h => List.mem_append_right _ h) (by decide +kernel))
set_option maxRecDepth 20000 in
theorem gL_law_L_fire : GoodIn wsL_law (va_wsS RL 118 yL_fire wsL_fire) := goodIn_app (goodIn_of _ (by decide +kernel)) ggL_law_L_fire
set_option maxRecDepth 20000 in
theorem ggL_law_X5_fire : GoodIn wsL_law wsX5_fire := goodIn_r _ [252, 122, 74, 71, 219, 220, 221, 5, 222, 123, 127, 128, 129, 130, 131, 132, 133, 253, 254, 255, 256, 75, 164, 165, 166, 167, 76, 718, 719, 720, 721, 722, 723, 724, 725, 726, 727, 728, 729, 730, 731, 732, 733, 734, 735, 736] (by decide +kernel) (by decide +kernel)
set_option maxRecDepth 20000 in
theorem gL_law_X5_fire : GoodIn wsL_law (wsV RL 120 RX5 yX5_fire wsX5_fire) := goodIn_app (goodIn_of _ (by decide +kernel)) ggL_law_X5_fire
set_option maxRecDepth 20000 in
theorem ggL_law_L_scour : GoodIn wsL_law wsL_scour := goodIn_ca (goodIn_r _ [259, 88, 260, 261, 262, 2, 263, 24, 98, 202, 203, 204, 205, 102, 103, 97, 104, 105, 106, 264, 265, 266, 48, 267, 117, 60, 268, 269, 36, 270, 271, 272, 273, 274, 59, 275, 276, 277, 16, 278, 33, 31, 712, 713, 714, 715, 716, 717, 741, 742, 743, 744, 745, 746, 747, 748, 749, 750, 751, 752, 737, 738, 739, 740] (by decide +kernel) (by decide +kernel)) (goodIn_sub (fun _ h => List.mem_append_left _ (List.mem_append_right _ h)) (by decide +kernel))
set_option maxRecDepth 20000 in
theorem gL_law_L_scour : GoodIn wsL_law (va_wsS RL 121 yL_scour wsL_scour) := goodIn_app (goodIn_of _ (by decide +kernel)) ggL_law_L_scour
set_option maxRecDepth 20000 in
theorem ggL_law_X5_scour : GoodIn wsL_law wsX5_scour := goodIn_r _ [282, 122, 74, 283, 269, 36, 270, 75, 219, 220, 221, 5, 222, 123, 127, 128, 129, 130, 131, 132, 133, 284, 285, 286, 287, 288, 289, 290, 291, 72, 292, 293, 294, 295, 296, 297, 298, 299, 231, 232, 233, 300, 301, 302, 303, 253, 254, 255, 256, 718, 719, 720, 721, 722, 723, 724, 725, 726, 727, 728, 729, 730, 731, 732, 733, 734, 735, 736] (by decide +kernel) (by decide +kernel)
set_option maxRecDepth 20000 in
theorem gL_law_X5_scour : GoodIn wsL_law (wsV RL 123 RX5 yX5_scour wsX5_scour) := goodIn_app (goodIn_of _ (by decide +kernel)) ggL_law_X5_scour
set_option maxRecDepth 20000 in
theorem ggL_law_L_inspect : GoodIn wsL_law wsL_inspect := goodIn_ca (goodIn_r _ [306, 88, 307, 308, 309, 2, 310, 24, 98, 188, 20, 200, 202, 203, 204, 205, 102, 103, 97, 104, 105, 106, 311, 312, 313, 48, 314, 117, 60, 712, 713, 714, 715, 716, 717, 741, 742, 743, 744, 745, 746, 747, 748, 749, 750, 751, 752] (by decide +kernel) (by decide +kernel)) (goodIn_sub (fun _ h => List.mem_append_left _ (List.mem_append_right _ h)) (by decide +kernel))
set_option maxRecDepth 20000 in
theorem gL_law_L_inspect : GoodIn wsL_law (va_wsS RL 124 yL_inspect wsL_inspect) := goodIn_app (goodIn_of _ (by decide +kernel)) ggL_law_L_inspect
set_option maxRecDepth 20000 in
theorem ggL_law_X5_inspect : GoodIn wsL_law wsX5_inspect := goodIn_r _ [318, 122, 74, 70, 71, 219, 220, 221, 5, 222, 123, 127, 128, 129, 130, 131, 132, 133, 253, 254, 255, 256, 75, 234, 235, 236, 237, 164, 165, 166, 167, 76, 718, 719, 720, 721, 722, 723, 724, 725, 726, 727, 728, 729, 730, 731, 732, 733, 734, 735, 736] (by decide +kernel) (by decide +kernel)
set_option maxRecDepth 20000 in
theorem gL_law_X5_inspect : GoodIn wsL_law (wsV RL 126 RX5 yX5_inspect wsX5_inspect) := goodIn_app (goodIn_of _ (by decide +kernel)) ggL_law_X5_inspect
set_option maxRecDepth 20000 in
theorem ggL_law_L_shift : GoodIn wsL_law wsL_shift := goodIn_ca (goodIn_ca (goodIn_r _ [321, 88, 89, 322, 323, 324, 2, 325, 110, 111, 24, 98, 200, 201, 326, 269, 36, 270, 202, 203, 204, 205, 102, 103, 97, 104, 105, 106, 206, 207, 208, 48, 209, 59, 210, 117, 245, 246, 247, 248, 60, 211, 212, 213, 214, 712, 713, 714, 715, 716, 717, 741, 742, 743, 744, 745, 746, 747, 748, 749, 750, 751, 752, 737, 738, 739, 740] (by decide +kernel) (by decide +kernel)) (goodIn_sub (fun _ h => List.mem_append_right _ h) (by decide +kernel))) (goodIn_sub (fun _ h => List.mem_append_left _ (List.mem_append_right _ h)) (by decide +kernel))
set_option maxRecDepth 20000 in
theorem gL_law_L_shift : GoodIn wsL_law (va_wsS RL 127 yL_shift wsL_shift) := goodIn_app (goodIn_of _ (by decide +kernel)) ggL_law_L_shift
set_option maxRecDepth 20000 in
theorem ggL_law_X5_shift : GoodIn wsL_law wsX5_shift := goodIn_r _ [330, 122, 71, 74, 219, 220, 221, 5, 222, 123, 127, 128, 129, 130, 131, 132, 133, 227, 228, 229, 230, 72, 231, 232, 233, 253, 254, 255, 256, 75, 234, 235, 236, 237, 718, 719, 720, 721, 722, 723, 724, 725, 726, 727, 728, 729, 730, 731, 732, 733, 734, 735, 736] (by decide +kernel) (by decide +kernel)
set_option maxRecDepth 20000 in
theorem gL_law_X5_shift : GoodIn wsL_law (wsV RL 129 RX5 yX5_shift wsX5_shift) := goodIn_app (goodIn_of _ (by decide +kernel)) ggL_law_X5_shift
set_option maxRecDepth 20000 in
theorem ggL_law_X4_gather : GoodIn wsL_law wsX4_gather := goodIn_r _ [334, 24, 335, 18, 712, 713, 714, 715, 716, 717, 741, 742, 743, 744, 745, 746, 747, 748] (by decide +kernel) (by decide +kernel)
set_option maxRecDepth 20000 in
theorem gL_law_X4_gather : GoodIn wsL_law (wsV RL 130 RX4 yX4_gather wsX4_gather) := goodIn_app (goodIn_of _ (by decide +kernel)) ggL_law_X4_gather
set_option maxRecDepth 20000 in
theorem ggL_law_X5_gather : GoodIn wsL_law wsX5_gather := goodIn_r _ [339, 122, 76, 164, 165, 166, 5, 167, 718, 719, 720, 721, 722, 723, 724, 725, 726, 727, 728, 729, 730, 731, 732, 733, 734, 735, 736] (by decide +kernel) (by decide +kernel)
set_option maxRecDepth 20000 in
theorem gL_law_X5_gather : GoodIn wsL_law (wsV RL 133 RX5 yX5_gather wsX5_gather) := goodIn_app (goodIn_of _ (by decide +kernel)) ggL_law_X5_gather
set_option maxRecDepth 20000 in
theorem ggL_law_L_chase : GoodIn wsL_law wsL_chase := goodIn_ca (goodIn_r _ [342, 88, 343, 344, 345, 2, 346, 24, 146, 347, 348, 349, 350, 351, 102, 103, 145, 104, 105, 106, 712, 713, 714, 715, 716, 717, 741, 742, 743, 744, 745, 746, 747, 748, 753, 754, 755] (by decide +kernel) (by decide +kernel)) (goodIn_sub (fun _ h => List.mem_append_left _ (List.mem_append_right _ h)) (by decide +kernel))
set_option maxRecDepth 20000 in
theorem gL_law_L_chase : GoodIn wsL_law (va_wsS RL 134 yL_chase wsL_chase) := goodIn_app (goodIn_of _ (by decide +kernel)) ggL_law_L_chase
set_option maxRecDepth 20000 in
theorem ggL_law_X5_chase : GoodIn wsL_law wsX5_chase := goodIn_r _ [355, 122, 152, 77, 127, 128, 5, 129, 130, 131, 132, 133, 718, 719, 720, 721, 722, 723, 724, 725, 726, 727, 728, 729, 730, 731, 732, 733, 734, 735, 736] (by decide +kernel) (by decide +kernel)
set_option maxRecDepth 20000 in
theorem gL_law_X5_chase : GoodIn wsL_law (wsV RL 136 RX5 yX5_chase wsX5_chase) := goodIn_app (goodIn_of _ (by decide +kernel)) ggL_law_X5_chase
set_option maxRecDepth 20000 in
theorem ggL_law_L_about : GoodIn wsL_law wsL_about := goodIn_ca (goodIn_r _ [358, 88, 359, 360, 361, 2, 362, 102, 103, 24, 98, 200, 363, 364, 201, 365, 188, 202, 203, 204, 205, 97, 104, 105, 106, 366, 367, 368, 16, 369, 30, 32, 370, 371, 372, 373, 374, 375, 376, 48, 377, 117, 271, 272, 273, 274, 59, 275, 276, 277, 278, 33, 31, 378, 379, 380, 381, 60, 382, 383, 384, 385, 386, 35, 36, 37, 387, 388, 389, 390, 712, 713, 714, 715, 716, 717, 741, 742, 743, 744, 745, 746, 747, 748, 749, 750, 751, 752, 737, 738, 739, 740] (by decide +kernel) (by decide +kernel)) (goodIn_sub (fun _ h => List.mem_append_left _ (List.mem_append_right _ h)) (by decide +kernel))
set_option maxRecDepth 20000 in
theorem gL_law_L_about : GoodIn wsL_law (va_wsS RL 137 yL_about wsL_about) := goodIn_app (goodIn_of _ (by decide +kernel)) ggL_law_L_about
