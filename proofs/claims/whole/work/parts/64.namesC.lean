set_option maxRecDepth 20000 in
theorem ggL_law_X4_init : GoodIn wsL_law wsX4_init := goodIn_r _ [9, 10, 11, 12, 13, 14, 15, 16, 17, 18, 19, 20, 21, 22, 23, 24, 25, 26, 27, 28, 29, 30, 31, 32, 33, 34, 35, 36, 37, 38, 39, 40, 41, 42, 43, 44, 45, 46, 47, 48, 49, 50, 51, 52, 53, 54, 55, 56, 57, 58, 59, 60, 61, 62, 63, 64, 65, 66, 67, 68, 69, 70, 71, 72, 73, 74, 75, 747, 748, 749, 750, 751, 752, 772, 773, 774, 775, 776, 777, 778, 779, 780, 781, 782, 783, 784, 785, 786, 787, 788, 789, 790, 791] (by decide +kernel) (by decide +kernel)
set_option maxRecDepth 20000 in
theorem gL_law_X4_init : GoodIn wsL_law (wsX4_init) := ggL_law_X4_init
set_option maxRecDepth 20000 in
theorem ggL_law_X5_init : GoodIn wsL_law wsX5_init := goodIn_r _ [78, 79, 11, 12, 80, 34, 81, 82, 83, 84, 85, 86, 87, 88, 89, 90, 91, 92, 93, 753, 754, 755, 756, 757, 758, 759, 760, 761, 762, 763, 764, 765, 766, 767, 768, 769, 770, 771] (by decide +kernel) (by decide +kernel)
set_option maxRecDepth 20000 in
theorem gL_law_X5_init : GoodIn wsL_law (wsX5_init) := ggL_law_X5_init
set_option maxRecDepth 20000 in
theorem ggL_law_L_pile : GoodIn wsL_law wsL_pile := goodIn_ca (goodIn_ca (goodIn_ca (goodIn_r _ [97, 98, 99, 100, 101, 102, 103, 2, 104, 105, 106, 26, 107, 108, 14, 109, 110, 111, 112, 113, 114, 115, 116, 117, 118, 119, 120, 121, 122, 123, 124, 56, 125, 126, 68, 127, 747, 748, 749, 750, 751, 752, 777, 778, 779, 780, 781, 782, 783, 784, 785, 786, 787, 788] (by decide +kernel) (by decide +kernel)) (goodIn_sub (fun _ h => List.mem_append_left _ (List.mem_append_left _ (List.mem_append_right _ h))) (by decide +kernel))) (goodIn_sub (fun _ h => List.mem_append_left _ (List.mem_append_right _ h)) (by decide +kernel))) (goodIn_sub (fun _ h => List.mem_append_right _ h) (by decide +kernel))
set_option maxRecDepth 20000 in
theorem gL_law_L_pile : GoodIn wsL_law (va_wsS RL 92 yL_pile wsL_pile) := goodIn_app (goodIn_of _ (by decide +kernel)) ggL_law_L_pile
set_option maxRecDepth 20000 in
theorem ggL_law_X5_pile : GoodIn wsL_law wsX5_pile := goodIn_r _ [131, 132, 133, 81, 82, 134, 135, 5, 136, 137, 138, 139, 140, 141, 142, 143, 753, 754, 755, 756, 757, 758, 759, 760, 761, 762, 763, 764, 765, 766, 767, 768, 769, 770, 771] (by decide +kernel) (by decide +kernel)
set_option maxRecDepth 20000 in
theorem gL_law_X5_pile : GoodIn wsL_law (wsV RL 97 RX5 yX5_pile wsX5_pile) := goodIn_app (goodIn_of _ (by decide +kernel)) ggL_law_X5_pile
set_option maxRecDepth 20000 in
theorem ggL_law_X5_thrown : GoodIn wsL_law wsX5_thrown := goodIn_r _ [147, 132, 753, 754, 755, 756, 757, 758, 759, 760, 761, 762, 763, 764, 765, 766, 767, 768, 769, 770, 771] (by decide +kernel) (by decide +kernel)
set_option maxRecDepth 20000 in
theorem gL_law_X5_thrown : GoodIn wsL_law (wsV RL 98 RX5 yX5_thrown wsX5_thrown) := goodIn_app (goodIn_of _ (by decide +kernel)) ggL_law_X5_thrown
set_option maxRecDepth 20000 in
theorem ggL_law_L_cat : GoodIn wsL_law wsL_cat := goodIn_ca (goodIn_ca (goodIn_r _ [150, 99, 100, 151, 152, 153, 2, 154, 105, 106, 26, 155, 156, 157, 117, 118, 119, 120, 121, 114, 115, 116, 747, 748, 749, 750, 751, 752, 777, 778, 779, 780, 781, 782, 783, 784, 789, 790, 791] (by decide +kernel) (by decide +kernel)) (goodIn_sub (fun _ h => List.mem_append_left _ (List.mem_append_left _ (List.mem_append_right _ h))) (by decide +kernel))) (goodIn_sub (fun _ h => List.mem_append_right _ h) (by decide +kernel))
set_option maxRecDepth 20000 in
theorem gL_law_L_cat : GoodIn wsL_law (va_wsS RL 102 yL_cat wsL_cat) := goodIn_app (goodIn_of _ (by decide +kernel)) ggL_law_L_cat
set_option maxRecDepth 20000 in
theorem ggL_law_X5_cat : GoodIn wsL_law wsX5_cat := goodIn_r _ [161, 132, 162, 83, 87, 137, 138, 5, 139, 140, 141, 142, 143, 753, 754, 755, 756, 757, 758, 759, 760, 761, 762, 763, 764, 765, 766, 767, 768, 769, 770, 771] (by decide +kernel) (by decide +kernel)
set_option maxRecDepth 20000 in
theorem gL_law_X5_cat : GoodIn wsL_law (wsV RL 105 RX5 yX5_cat wsX5_cat) := goodIn_app (goodIn_of _ (by decide +kernel)) ggL_law_X5_cat
set_option maxRecDepth 20000 in
theorem ggL_law_L_give : GoodIn wsL_law wsL_give := goodIn_ca (goodIn_ca (goodIn_r _ [165, 98, 99, 166, 167, 168, 2, 169, 20, 109, 110, 111, 112, 113, 114, 115, 116, 117, 118, 119, 120, 121, 170, 171, 172, 19, 173, 48, 174, 175, 176, 177, 747, 748, 749, 750, 751, 752, 776] (by decide +kernel) (by decide +kernel)) (goodIn_sub (fun _ h => List.mem_append_left _ (List.mem_append_right _ h)) (by decide +kernel))) (goodIn_sub (fun _ h => List.mem_append_right _ h) (by decide +kernel))
set_option maxRecDepth 20000 in
theorem gL_law_L_give : GoodIn wsL_law (va_wsS RL 106 yL_give wsL_give) := goodIn_app (goodIn_of _ (by decide +kernel)) ggL_law_L_give
set_option maxRecDepth 20000 in
theorem ggL_law_X5_give : GoodIn wsL_law wsX5_give := goodIn_r _ [181, 132, 86, 134, 135, 5, 136, 137, 138, 139, 140, 141, 142, 143, 182, 183, 184, 185, 753, 754, 755, 756, 757, 758, 759, 760, 761, 762, 763, 764, 765, 766, 767, 768, 769, 770, 771] (by decide +kernel) (by decide +kernel)
set_option maxRecDepth 20000 in
theorem gL_law_X5_give : GoodIn wsL_law (wsV RL 108 RX5 yX5_give wsX5_give) := goodIn_app (goodIn_of _ (by decide +kernel)) ggL_law_X5_give
set_option maxRecDepth 20000 in
theorem ggL_law_L_setRain : GoodIn wsL_law wsL_setRain := goodIn_ca (goodIn_r _ [188, 99, 189, 190, 191, 2, 192, 26, 193, 117, 118, 119, 120, 121, 114, 115, 116, 747, 748, 749, 750, 751, 752, 777, 778, 779, 780, 781, 782, 783, 784] (by decide +kernel) (by decide +kernel)) (goodIn_sub (fun _ h => List.mem_append_right _ h) (by decide +kernel))
set_option maxRecDepth 20000 in
theorem gL_law_L_setRain : GoodIn wsL_law (va_wsS RL 109 yL_setRain wsL_setRain) := goodIn_app (goodIn_of _ (by decide +kernel)) ggL_law_L_setRain
set_option maxRecDepth 20000 in
theorem ggL_law_X5_setRain : GoodIn wsL_law wsX5_setRain := goodIn_r _ [197, 132, 198, 137, 138, 5, 139, 140, 141, 142, 143, 753, 754, 755, 756, 757, 758, 759, 760, 761, 762, 763, 764, 765, 766, 767, 768, 769, 770, 771] (by decide +kernel) (by decide +kernel)
set_option maxRecDepth 20000 in
theorem gL_law_X5_setRain : GoodIn wsL_law (wsV RL 111 RX5 yX5_setRain wsX5_setRain) := goodIn_app (goodIn_of _ (by decide +kernel)) ggL_law_X5_setRain
set_option maxRecDepth 20000 in
theorem ggL_law_L_setLimit : GoodIn wsL_law wsL_setLimit := goodIn_ca (goodIn_r _ [201, 99, 202, 203, 204, 2, 205, 26, 206, 117, 118, 119, 120, 121, 114, 115, 116, 747, 748, 749, 750, 751, 752, 777, 778, 779, 780, 781, 782, 783, 784] (by decide +kernel) (by decide +kernel)) (goodIn_sub (fun _ h => List.mem_append_right _ h) (by decide +kernel))
set_option maxRecDepth 20000 in
theorem gL_law_L_setLimit : GoodIn wsL_law (va_wsS RL 112 yL_setLimit wsL_setLimit) := goodIn_app (goodIn_of _ (by decide +kernel)) ggL_law_L_setLimit
set_option maxRecDepth 20000 in
theorem ggL_law_X5_setLimit : GoodIn wsL_law wsX5_setLimit := goodIn_r _ [210, 132, 80, 137, 138, 5, 139, 140, 141, 142, 143, 753, 754, 755, 756, 757, 758, 759, 760, 761, 762, 763, 764, 765, 766, 767, 768, 769, 770, 771] (by decide +kernel) (by decide +kernel)
set_option maxRecDepth 20000 in
theorem gL_law_X5_setLimit : GoodIn wsL_law (wsV RL 114 RX5 yX5_setLimit wsX5_setLimit) := goodIn_app (goodIn_of _ (by decide +kernel)) ggL_law_X5_setLimit
set_option maxRecDepth 20000 in
theorem ggL_law_L_stack : GoodIn wsL_law wsL_stack := goodIn_ca (goodIn_ca (goodIn_ca (goodIn_r _ [213, 98, 99, 100, 214, 215, 216, 2, 217, 105, 106, 26, 108, 20, 218, 219, 220, 221, 222, 223, 112, 113, 107, 114, 115, 116, 117, 118, 119, 120, 121, 174, 175, 176, 19, 177, 48, 224, 225, 226, 56, 227, 68, 228, 127, 229, 230, 231, 232, 233, 234, 235, 236, 237, 69, 170, 171, 172, 173, 747, 748, 749, 750, 751, 752, 777, 778, 779, 780, 781, 782, 783, 784, 785, 786, 787, 788, 776, 772, 773, 774, 775] (by decide +kernel) (by decide +kernel)) (goodIn_sub (fun _ h => List.mem_append_left _ (List.mem_append_left _ (List.mem_append_right _ h))) (by decide +kernel))) (goodIn_sub (fun _ h => List.mem_append_left _ (List.mem_append_right _ h)) (by decide +kernel))) (goodIn_sub (fun _ h => List.mem_append_right _ h) (by decide +kernel))
set_option maxRecDepth 20000 in
theorem gL_law_L_stack : GoodIn wsL_law (va_wsS RL 115 yL_stack wsL_stack) := goodIn_app (goodIn_of _ (by decide +kernel)) ggL_law_L_stack
set_option maxRecDepth 20000 in
theorem ggL_law_X5_stack : GoodIn wsL_law wsX5_stack := goodIn_r _ [241, 132, 81, 84, 242, 243, 244, 5, 245, 133, 137, 138, 139, 140, 141, 142, 143, 246, 247, 248, 249, 86, 250, 251, 252, 253, 82, 254, 255, 256, 182, 183, 184, 185, 257, 258, 259, 260, 85, 753, 754, 755, 756, 757, 758, 759, 760, 761, 762, 763, 764, 765, 766, 767, 768, 769, 770, 771] (by decide +kernel) (by decide +kernel)
set_option maxRecDepth 20000 in
theorem gL_law_X5_stack : GoodIn wsL_law (wsV RL 117 RX5 yX5_stack wsX5_stack) := goodIn_app (goodIn_of _ (by decide +kernel)) ggL_law_X5_stack
set_option maxRecDepth 20000 in
theorem ggL_law_L_fire : GoodIn wsL_law wsL_fire := goodIn_ca (goodIn_ca (goodIn_ca (goodIn_r _ [263, 98, 99, 100, 264, 265, 266, 2, 267, 105, 106, 26, 108, 219, 21, 218, 220, 221, 222, 223, 112, 113, 107, 114, 115, 116, 117, 118, 119, 120, 121, 268, 269, 270, 56, 271, 127, 272, 273, 274, 275, 69, 170, 171, 172, 19, 173, 48, 747, 748, 749, 750, 751, 752, 777, 778, 779, 780, 781, 782, 783, 784, 785, 786, 787, 788, 776] (by decide +kernel) (by decide +kernel)) (goodIn_sub (fun _ h => List.mem_append_left _ (List.mem_append_left _ (List.mem_append_right _ h))) (by decide +kernel))) (goodIn_sub (fun _ h => List.mem_append_left _ (List.mem_append_right _ h)) (by decide +kernel))) (goodIn_sub (fun _ h => List.mem_append_right _ h) (by decide +kernel))
set_option maxRecDepth 20000 in
theorem gL_law_L_fire : GoodIn wsL_law (va_wsS RL 118 yL_fire wsL_fire) := goodIn_app (goodIn_of _ (by decide +kernel)) ggL_law_L_fire
set_option maxRecDepth 20000 in
theorem ggL_law_X5_fire : GoodIn wsL_law wsX5_fire := goodIn_r _ [279, 132, 84, 81, 242, 243, 244, 5, 245, 133, 137, 138, 139, 140, 141, 142, 143, 280, 281, 282, 283, 85, 182, 183, 184, 185, 86, 753, 754, 755, 756, 757, 758, 759, 760, 761, 762, 763, 764, 765, 766, 767, 768, 769, 770, 771] (by decide +kernel) (by decide +kernel)
set_option maxRecDepth 20000 in
theorem gL_law_X5_fire : GoodIn wsL_law (wsV RL 120 RX5 yX5_fire wsX5_fire) := goodIn_app (goodIn_of _ (by decide +kernel)) ggL_law_X5_fire
set_option maxRecDepth 20000 in
theorem ggL_law_L_scour : GoodIn wsL_law wsL_scour := goodIn_ca (goodIn_r _ [286, 98, 287, 288, 289, 2, 290, 26, 108, 220, 221, 222, 223, 112, 113, 107, 114, 115, 116, 291, 292, 293, 56, 294, 127, 295, 296, 39, 297, 298, 299, 300, 301, 68, 302, 303, 304, 16, 305, 36, 33, 272, 273, 274, 275, 69, 234, 235, 236, 237, 747, 748, 749, 750, 751, 752, 777, 778, 779, 780, 781, 782, 783, 784, 785, 786, 787, 788, 772, 773, 774, 775] (by decide +kernel) (by decide +kernel)) (goodIn_sub (fun _ h => List.mem_append_left _ (List.mem_append_right _ h)) (by decide +kernel))
set_option maxRecDepth 20000 in
theorem gL_law_L_scour : GoodIn wsL_law (va_wsS RL 121 yL_scour wsL_scour) := goodIn_app (goodIn_of _ (by decide +kernel)) ggL_law_L_scour
set_option maxRecDepth 20000 in
theorem ggL_law_X5_scour : GoodIn wsL_law wsX5_scour := goodIn_r _ [309, 132, 84, 310, 296, 39, 297, 85, 242, 243, 244, 5, 245, 133, 137, 138, 139, 140, 141, 142, 143, 311, 312, 313, 314, 315, 316, 317, 318, 82, 319, 320, 321, 322, 323, 324, 325, 326, 254, 255, 256, 327, 328, 329, 330, 280, 281, 282, 283, 753, 754, 755, 756, 757, 758, 759, 760, 761, 762, 763, 764, 765, 766, 767, 768, 769, 770, 771] (by decide +kernel) (by decide +kernel)
set_option maxRecDepth 20000 in
theorem gL_law_X5_scour : GoodIn wsL_law (wsV RL 123 RX5 yX5_scour wsX5_scour) := goodIn_app (goodIn_of _ (by decide +kernel)) ggL_law_X5_scour
set_option maxRecDepth 20000 in
theorem ggL_law_L_inspect : GoodIn wsL_law wsL_inspect := goodIn_ca (goodIn_r _ [333, 98, 334, 335, 336, 2, 337, 26, 108, 206, 22, 218, 220, 221, 222, 223, 112, 113, 107, 114, 115, 116, 338, 339, 340, 56, 341, 127, 272, 273, 274, 275, 69, 234, 235, 236, 237, 170, 171, 172, 19, 173, 48, 747, 748, 749, 750, 751, 752, 777, 778, 779, 780, 781, 782, 783, 784, 785, 786, 787, 788, 776] (by decide +kernel) (by decide +kernel)) (goodIn_sub (fun _ h => List.mem_append_left _ (List.mem_append_right _ h)) (by decide +kernel))
set_option maxRecDepth 20000 in
theorem gL_law_L_inspect : GoodIn wsL_law (va_wsS RL 124 yL_inspect wsL_inspect) := goodIn_app (goodIn_of _ (by decide +kernel)) ggL_law_L_inspect
set_option maxRecDepth 20000 in
theorem ggL_law_X5_inspect : GoodIn wsL_law wsX5_inspect := goodIn_r _ [345, 132, 84, 80, 81, 242, 243, 244, 5, 245, 133, 137, 138, 139, 140, 141, 142, 143, 280, 281, 282, 283, 85, 257, 258, 259, 260, 182, 183, 184, 185, 86, 753, 754, 755, 756, 757, 758, 759, 760, 761, 762, 763, 764, 765, 766, 767, 768, 769, 770, 771] (by decide +kernel) (by decide +kernel)
set_option maxRecDepth 20000 in
theorem gL_law_X5_inspect : GoodIn wsL_law (wsV RL 126 RX5 yX5_inspect wsX5_inspect) := goodIn_app (goodIn_of _ (by decide +kernel)) ggL_law_X5_inspect
set_option maxRecDepth 20000 in
theorem ggL_law_L_shift : GoodIn wsL_law wsL_shift := goodIn_ca (goodIn_ca (goodIn_r _ [348, 98, 99, 349, 350, 351, 2, 352, 120, 121, 26, 108, 218, 219, 353, 296, 39, 297, 220, 221, 222, 223, 112, 113, 107, 114, 115, 116, 224, 225, 226, 56, 227, 68, 228, 127, 268, 269, 270, 271, 272, 273, 274, 275, 69, 229, 230, 231, 232, 233, 234, 235, 236, 237, 747, 748, 749, 750, 751, 752, 777, 778, 779, 780, 781, 782, 783, 784, 785, 786, 787, 788, 772, 773, 774, 775] (by decide +kernel) (by decide +kernel)) (goodIn_sub (fun _ h => List.mem_append_right _ h) (by decide +kernel))) (goodIn_sub (fun _ h => List.mem_append_left _ (List.mem_append_right _ h)) (by decide +kernel))
set_option maxRecDepth 20000 in
theorem gL_law_L_shift : GoodIn wsL_law (va_wsS RL 127 yL_shift wsL_shift) := goodIn_app (goodIn_of _ (by decide +kernel)) ggL_law_L_shift
set_option maxRecDepth 20000 in
theorem ggL_law_X5_shift : GoodIn wsL_law wsX5_shift := goodIn_r _ [357, 132, 81, 84, 242, 243, 244, 5, 245, 133, 137, 138, 139, 140, 141, 142, 143, 250, 251, 252, 253, 82, 254, 255, 256, 280, 281, 282, 283, 85, 257, 258, 259, 260, 753, 754, 755, 756, 757, 758, 759, 760, 761, 762, 763, 764, 765, 766, 767, 768, 769, 770, 771] (by decide +kernel) (by decide +kernel)
set_option maxRecDepth 20000 in
theorem gL_law_X5_shift : GoodIn wsL_law (wsV RL 129 RX5 yX5_shift wsX5_shift) := goodIn_app (goodIn_of _ (by decide +kernel)) ggL_law_X5_shift
set_option maxRecDepth 20000 in
theorem ggL_law_X4_gather : GoodIn wsL_law wsX4_gather := goodIn_r _ [361, 26, 362, 20, 363, 364, 365, 19, 366, 48, 174, 175, 176, 177, 170, 171, 172, 173, 747, 748, 749, 750, 751, 752, 777, 778, 779, 780, 781, 782, 783, 784, 776] (by decide +kernel) (by decide +kernel)
set_option maxRecDepth 20000 in
theorem gL_law_X4_gather : GoodIn wsL_law (wsV RL 130 RX4 yX4_gather wsX4_gather) := goodIn_app (goodIn_of _ (by decide +kernel)) ggL_law_X4_gather
set_option maxRecDepth 20000 in
theorem ggL_law_X5_gather : GoodIn wsL_law wsX5_gather := goodIn_r _ [370, 132, 86, 182, 183, 184, 5, 185, 753, 754, 755, 756, 757, 758, 759, 760, 761, 762, 763, 764, 765, 766, 767, 768, 769, 770, 771] (by decide +kernel) (by decide +kernel)
set_option maxRecDepth 20000 in
theorem gL_law_X5_gather : GoodIn wsL_law (wsV RL 133 RX5 yX5_gather wsX5_gather) := goodIn_app (goodIn_of _ (by decide +kernel)) ggL_law_X5_gather
set_option maxRecDepth 20000 in
theorem ggL_law_L_chase : GoodIn wsL_law wsL_chase := goodIn_ca (goodIn_r _ [373, 98, 374, 375, 376, 2, 377, 26, 156, 378, 379, 380, 381, 382, 112, 113, 155, 114, 115, 116, 747, 748, 749, 750, 751, 752, 777, 778, 779, 780, 781, 782, 783, 784, 789, 790, 791] (by decide +kernel) (by decide +kernel)) (goodIn_sub (fun _ h => List.mem_append_left _ (List.mem_append_right _ h)) (by decide +kernel))
set_option maxRecDepth 20000 in
theorem gL_law_L_chase : GoodIn wsL_law (va_wsS RL 134 yL_chase wsL_chase) := goodIn_app (goodIn_of _ (by decide +kernel)) ggL_law_L_chase
set_option maxRecDepth 20000 in
theorem ggL_law_X5_chase : GoodIn wsL_law wsX5_chase := goodIn_r _ [386, 132, 162, 87, 137, 138, 5, 139, 140, 141, 142, 143, 753, 754, 755, 756, 757, 758, 759, 760, 761, 762, 763, 764, 765, 766, 767, 768, 769, 770, 771] (by decide +kernel) (by decide +kernel)
set_option maxRecDepth 20000 in
theorem gL_law_X5_chase : GoodIn wsL_law (wsV RL 136 RX5 yX5_chase wsX5_chase) := goodIn_app (goodIn_of _ (by decide +kernel)) ggL_law_X5_chase
set_option maxRecDepth 20000 in
theorem ggL_law_L_about : GoodIn wsL_law wsL_about := goodIn_ca (goodIn_r _ [389, 98, 390, 391, 392, 2, 393, 112, 113, 26, 108, 218, 394, 395, 219, 396, 206, 220, 221, 222, 223, 107, 114, 115, 116, 397, 398, 399, 16, 400, 32, 35, 401, 402, 403, 404, 405, 406, 407, 56, 408, 127, 298, 299, 300, 301, 68, 302, 303, 304, 305, 36, 33, 409, 410, 411, 412, 272, 273, 274, 275, 69, 413, 414, 415, 416, 417, 38, 39, 40, 418, 419, 420, 421, 747, 748, 749, 750, 751, 752, 777, 778, 779, 780, 781, 782, 783, 784, 785, 786, 787, 788, 772, 773, 774, 775] (by decide +kernel) (by decide +kernel)) (goodIn_sub (fun _ h => List.mem_append_left _ (List.mem_append_right _ h)) (by decide +kernel))
set_option maxRecDepth 20000 in
theorem gL_law_L_about : GoodIn wsL_law (va_wsS RL 137 yL_about wsL_about) := goodIn_app (goodIn_of _ (by decide +kernel)) ggL_law_L_about
