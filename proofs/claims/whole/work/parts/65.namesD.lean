set_option maxRecDepth 20000 in
theorem ggL_law_X5_about : GoodIn wsL_law wsX5_about := goodIn_r _ [394, 122, 219, 220, 221, 5, 222, 123, 127, 128, 129, 395, 396, 397, 398, 71, 72, 74, 399, 35, 36, 37, 231, 232, 233, 400, 401, 402, 403, 296, 297, 298, 299, 404, 405, 406, 407, 284, 285, 286, 287, 288, 289, 290, 291, 292, 293, 294, 295, 300, 301, 302, 303, 408, 409, 410, 411, 70, 253, 254, 255, 256, 75, 130, 131, 132, 133, 718, 719, 720, 721, 722, 723, 724, 725, 726, 727, 728, 729, 730, 731, 732, 733, 734, 735, 736] (by decide +kernel) (by decide +kernel)
set_option maxRecDepth 20000 in
theorem gL_law_X5_about : GoodIn wsL_law (wsV RL 139 RX5 yX5_about wsX5_about) := goodIn_app (goodIn_of _ (by decide +kernel)) ggL_law_X5_about
set_option maxRecDepth 20000 in
theorem ggL_law_L_ball : GoodIn wsL_law wsL_ball := goodIn_ca (goodIn_r _ [414, 88, 415, 416, 417, 2, 418, 102, 103, 24, 98, 201, 363, 202, 203, 204, 205, 97, 104, 105, 106, 419, 420, 421, 48, 422, 60, 423, 424, 425, 16, 426, 427, 371, 372, 373, 30, 32, 428, 429, 430, 431, 432, 433, 434, 435, 436, 31, 437, 438, 439, 440, 441, 272, 273, 274, 59, 117, 275, 276, 277, 278, 33, 442, 443, 444, 445, 446, 386, 35, 36, 37, 268, 269, 270, 447, 448, 449, 450, 451, 452, 453, 712, 713, 714, 715, 716, 717, 741, 742, 743, 744, 745, 746, 747, 748, 749, 750, 751, 752, 737, 738, 739, 740] (by decide +kernel) (by decide +kernel)) (goodIn_sub (fun _ h => List.mem_append_left _ (List.mem_append_right _ h)) (by decide +kernel))
set_option maxRecDepth 20000 in
theorem gL_law_L_ball : GoodIn wsL_law (va_wsS RL 140 yL_ball wsL_ball) := goodIn_app (goodIn_of _ (by decide +kernel)) ggL_law_L_ball
set_option maxRecDepth 20000 in
theorem ggL_law_X5_ball : GoodIn wsL_law wsX5_ball := goodIn_r _ [457, 122, 74, 283, 269, 36, 270, 219, 220, 221, 5, 222, 123, 127, 128, 129, 130, 131, 132, 133, 253, 254, 255, 256, 75, 288, 289, 290, 291, 72, 292, 293, 294, 295, 296, 297, 298, 299, 231, 232, 233, 284, 285, 286, 287, 300, 301, 302, 303, 718, 719, 720, 721, 722, 723, 724, 725, 726, 727, 728, 729, 730, 731, 732, 733, 734, 735, 736] (by decide +kernel) (by decide +kernel)
set_option maxRecDepth 20000 in
theorem gL_law_X5_ball : GoodIn wsL_law (wsV RL 143 RX5 yX5_ball wsX5_ball) := goodIn_app (goodIn_of _ (by decide +kernel)) ggL_law_X5_ball
set_option maxRecDepth 20000 in
theorem ggL_law_L_at : GoodIn wsL_law wsL_at := goodIn_ca (goodIn_r _ [460, 88, 461, 462, 463, 2, 464, 102, 103, 24, 98, 363, 364, 201, 202, 203, 204, 205, 97, 104, 105, 106, 465, 451, 452, 16, 453, 30, 433, 434, 435, 436, 32, 31, 712, 713, 714, 715, 716, 717, 741, 742, 743, 744, 745, 746, 747, 748, 749, 750, 751, 752, 737, 738, 739, 740] (by decide +kernel) (by decide +kernel)) (goodIn_sub (fun _ h => List.mem_append_left _ (List.mem_append_right _ h)) (by decide +kernel))
set_option maxRecDepth 20000 in
theorem gL_law_L_at : GoodIn wsL_law (va_wsS RL 144 yL_at wsL_at) := goodIn_app (goodIn_of _ (by decide +kernel)) ggL_law_L_at
set_option maxRecDepth 20000 in
theorem ggL_law_X5_at : GoodIn wsL_law wsX5_at := goodIn_r _ [469, 122, 72, 219, 220, 221, 5, 222, 123, 127, 128, 129, 130, 131, 132, 133, 300, 301, 302, 303, 74, 296, 297, 298, 299, 231, 232, 233, 718, 719, 720, 721, 722, 723, 724, 725, 726, 727, 728, 729, 730, 731, 732, 733, 734, 735, 736] (by decide +kernel) (by decide +kernel)
set_option maxRecDepth 20000 in
theorem gL_law_X5_at : GoodIn wsL_law (wsV RL 147 RX5 yX5_at wsX5_at) := goodIn_app (goodIn_of _ (by decide +kernel)) ggL_law_X5_at
set_option maxRecDepth 20000 in
theorem ggL_law_L_told : GoodIn wsL_law wsL_told := goodIn_ca (goodIn_r _ [472, 88, 473, 474, 475, 2, 476, 102, 103, 18, 24, 335, 19, 20, 99, 100, 101, 104, 105, 106, 477, 478, 479, 23, 480, 481, 46, 482, 483, 712, 713, 714, 715, 716, 717, 741, 742, 743, 744, 745, 746, 747, 748, 749, 750, 751, 752] (by decide +kernel) (by decide +kernel)) (goodIn_sub (fun _ h => List.mem_append_left _ (List.mem_append_right _ h)) (by decide +kernel))
set_option maxRecDepth 20000 in
theorem gL_law_L_told : GoodIn wsL_law (va_wsS RL 148 yL_told wsL_told) := goodIn_app (goodIn_of _ (by decide +kernel)) ggL_law_L_told
set_option maxRecDepth 20000 in
theorem ggL_law_X5_told : GoodIn wsL_law wsX5_told := goodIn_r _ [487, 122, 124, 125, 5, 126, 127, 128, 129, 488, 489, 490, 491, 76, 492, 493, 494, 495, 123, 71, 74, 130, 131, 132, 133, 718, 719, 720, 721, 722, 723, 724, 725, 726, 727, 728, 729, 730, 731, 732, 733, 734, 735, 736] (by decide +kernel) (by decide +kernel)
set_option maxRecDepth 20000 in
theorem gL_law_X5_told : GoodIn wsL_law (wsV RL 150 RX5 yX5_told wsX5_told) := goodIn_app (goodIn_of _ (by decide +kernel)) ggL_law_X5_told
set_option maxRecDepth 20000 in
theorem ggL_law_L_mouser : GoodIn wsL_law wsL_mouser := goodIn_ca (goodIn_r _ [498, 88, 499, 500, 501, 2, 502, 102, 103, 24, 146, 147, 347, 503, 348, 349, 350, 351, 145, 104, 105, 106, 712, 713, 714, 715, 716, 717, 741, 742, 743, 744, 745, 746, 747, 748, 753, 754, 755] (by decide +kernel) (by decide +kernel)) (goodIn_sub (fun _ h => List.mem_append_left _ (List.mem_append_right _ h)) (by decide +kernel))
set_option maxRecDepth 20000 in
theorem gL_law_L_mouser : GoodIn wsL_law (va_wsS RL 151 yL_mouser wsL_mouser) := goodIn_app (goodIn_of _ (by decide +kernel)) ggL_law_L_mouser
set_option maxRecDepth 20000 in
theorem ggL_law_X5_mouser : GoodIn wsL_law wsX5_mouser := goodIn_r _ [507, 122, 152, 127, 128, 5, 129, 508, 509, 510, 511, 73, 77, 78, 130, 131, 132, 133, 718, 719, 720, 721, 722, 723, 724, 725, 726, 727, 728, 729, 730, 731, 732, 733, 734, 735, 736] (by decide +kernel) (by decide +kernel)
set_option maxRecDepth 20000 in
theorem gL_law_X5_mouser : GoodIn wsL_law (wsV RL 153 RX5 yX5_mouser wsX5_mouser) := goodIn_app (goodIn_of _ (by decide +kernel)) ggL_law_X5_mouser
set_option maxRecDepth 20000 in
theorem ggL_law_L_count : GoodIn wsL_law wsL_count := goodIn_ca (goodIn_r _ [514, 88, 515, 516, 517, 2, 518, 102, 103, 24, 519, 97, 145, 18, 19, 20, 175, 188, 520, 521, 522, 523, 524, 525, 23, 526, 53, 481, 46, 54, 483, 527, 379, 380, 48, 381, 117, 60, 712, 713, 714, 715, 716, 717, 741, 742, 743, 744, 745, 746, 747, 748, 749, 750, 751, 752] (by decide +kernel) (by decide +kernel)) (goodIn_sub (fun _ h => List.mem_append_left _ (List.mem_append_right _ h)) (by decide +kernel))
set_option maxRecDepth 20000 in
theorem gL_law_L_count : GoodIn wsL_law (va_wsS RL 154 yL_count wsL_count) := goodIn_app (goodIn_of _ (by decide +kernel)) ggL_law_L_count
set_option maxRecDepth 20000 in
theorem ggL_law_X5_count : GoodIn wsL_law wsX5_count := goodIn_r _ [531, 122, 127, 128, 5, 129, 532, 533, 534, 535, 536, 123, 152, 180, 70, 537, 538, 539, 540, 488, 489, 490, 491, 76, 492, 493, 494, 495, 71, 74, 408, 409, 410, 411, 253, 254, 255, 256, 75, 130, 131, 132, 133, 718, 719, 720, 721, 722, 723, 724, 725, 726, 727, 728, 729, 730, 731, 732, 733, 734, 735, 736] (by decide +kernel) (by decide +kernel)
set_option maxRecDepth 20000 in
theorem gL_law_X5_count : GoodIn wsL_law (wsV RL 156 RX5 yX5_count wsX5_count) := goodIn_app (goodIn_of _ (by decide +kernel)) ggL_law_X5_count
set_option maxRecDepth 20000 in
theorem ggL_law_L_room : GoodIn wsL_law wsL_room := goodIn_ca (goodIn_r _ [543, 89, 544, 545, 546, 2, 547, 107, 108, 109, 110, 111, 104, 105, 106, 548, 39, 16, 40] (by decide +kernel) (by decide +kernel)) (goodIn_sub (fun _ h => List.mem_append_right _ h) (by decide +kernel))
set_option maxRecDepth 20000 in
theorem gL_law_L_room : GoodIn wsL_law (va_wsS RL 157 yL_room wsL_room) := goodIn_app (goodIn_of _ (by decide +kernel)) ggL_law_L_room
set_option maxRecDepth 20000 in
theorem ggL_law_X5_room_ : GoodIn wsL_law wsX5_room_ := goodIn_r _ [552, 122, 127, 128, 5, 129, 231, 232, 233, 130, 131, 132, 133, 718, 719, 720, 721, 722, 723, 724, 725, 726, 727, 728, 729, 730, 731, 732, 733, 734, 735, 736] (by decide +kernel) (by decide +kernel)
set_option maxRecDepth 20000 in
theorem gL_law_X5_room_ : GoodIn wsL_law (wsV RL 159 RX5 yX5_room_ wsX5_room_) := goodIn_app (goodIn_of _ (by decide +kernel)) ggL_law_X5_room_
set_option maxRecDepth 20000 in
theorem ggL_law_L_side : GoodIn wsL_law wsL_side := goodIn_ca (goodIn_r _ [555, 89, 556, 557, 558, 2, 559, 107, 108, 109, 110, 111, 104, 105, 106, 548, 39, 16, 40] (by decide +kernel) (by decide +kernel)) (goodIn_sub (fun _ h => List.mem_append_right _ h) (by decide +kernel))
set_option maxRecDepth 20000 in
theorem gL_law_L_side : GoodIn wsL_law (va_wsS RL 160 yL_side wsL_side) := goodIn_app (goodIn_of _ (by decide +kernel)) ggL_law_L_side
set_option maxRecDepth 20000 in
theorem ggL_law_X5_side : GoodIn wsL_law wsX5_side := goodIn_r _ [563, 122, 231, 232, 5, 233, 127, 128, 129, 130, 131, 132, 133, 718, 719, 720, 721, 722, 723, 724, 725, 726, 727, 728, 729, 730, 731, 732, 733, 734, 735, 736] (by decide +kernel) (by decide +kernel)
set_option maxRecDepth 20000 in
theorem gL_law_X5_side : GoodIn wsL_law (wsV RL 162 RX5 yX5_side wsX5_side) := goodIn_app (goodIn_of _ (by decide +kernel)) ggL_law_X5_side
set_option maxRecDepth 20000 in
theorem ggL_law_L_pass : GoodIn wsL_law wsL_pass := goodIn_ca (goodIn_r _ [566, 89, 567, 568, 569, 2, 570, 24, 107, 108, 109, 110, 111, 104, 105, 106, 571, 572, 573, 23, 574, 575, 576, 577, 578, 481, 46, 579, 580, 50, 581, 582, 583, 584, 48, 585, 117, 60, 268, 269, 36, 270, 271, 272, 273, 274, 59, 275, 276, 277, 16, 278, 33, 31, 586, 587, 588, 589, 590, 53, 482, 591, 592, 593, 594, 52, 595, 65, 596, 597, 598, 599, 600, 601, 367, 368, 369, 30, 32, 602, 371, 372, 373, 603, 246, 247, 248, 712, 713, 714, 715, 716, 717, 741, 742, 743, 744, 745, 746, 747, 748, 749, 750, 751, 752, 737, 738, 739, 740, 753, 754, 755] (by decide +kernel) (by decide +kernel)) (goodIn_sub (fun _ h => List.mem_append_right _ h) (by decide +kernel))
set_option maxRecDepth 20000 in
theorem gL_law_L_pass : GoodIn wsL_law (va_wsS RL 163 yL_pass wsL_pass) := goodIn_app (goodIn_of _ (by decide +kernel)) ggL_law_L_pass
set_option maxRecDepth 20000 in
theorem ggL_law_X5_pass : GoodIn wsL_law wsX5_pass := goodIn_r _ [607, 122, 536, 127, 128, 5, 129, 130, 131, 132, 133, 537, 538, 539, 540, 488, 489, 490, 491, 76, 492, 493, 494, 495, 123, 71, 74, 608, 609, 610, 611, 180, 75, 283, 269, 36, 270, 152, 284, 285, 286, 287, 288, 289, 290, 291, 72, 292, 293, 294, 295, 296, 297, 298, 299, 231, 232, 233, 300, 301, 302, 303, 253, 254, 255, 256, 612, 613, 614, 615, 77, 73, 78, 400, 401, 402, 403, 404, 405, 406, 407, 164, 165, 166, 167, 718, 719, 720, 721, 722, 723, 724, 725, 726, 727, 728, 729, 730, 731, 732, 733, 734, 735, 736] (by decide +kernel) (by decide +kernel)
set_option maxRecDepth 20000 in
theorem gL_law_X5_pass : GoodIn wsL_law (wsV RL 165 RX5 yX5_pass wsX5_pass) := goodIn_app (goodIn_of _ (by decide +kernel)) ggL_law_X5_pass
set_option maxRecDepth 20000 in
theorem ggL_law_L_until : GoodIn wsL_law wsL_until := goodIn_ca (goodIn_r _ [618, 88, 619, 620, 621, 2, 622, 25, 24, 98, 188, 202, 203, 204, 205, 102, 103, 97, 104, 105, 106, 623, 624, 625, 23, 626, 481, 46, 580, 50, 53, 627, 628, 629, 630, 581, 579, 54, 631, 632, 633, 48, 634, 116, 59, 117, 60, 635, 636, 637, 638, 52, 639, 596, 65, 640, 378, 379, 380, 381, 571, 572, 573, 574, 575, 576, 577, 578, 582, 583, 584, 585, 268, 269, 36, 270, 271, 272, 273, 274, 275, 276, 277, 16, 278, 33, 31, 586, 587, 588, 589, 590, 482, 591, 592, 593, 594, 595, 597, 598, 599, 600, 601, 367, 368, 369, 30, 32, 602, 371, 372, 373, 603, 246, 247, 248, 712, 713, 714, 715, 716, 717, 741, 742, 743, 744, 745, 746, 747, 748, 749, 750, 751, 752, 753, 754, 755, 737, 738, 739, 740] (by decide +kernel) (by decide +kernel)) (goodIn_sub (fun _ h => List.mem_append_left _ (List.mem_append_right _ h)) (by decide +kernel))
set_option maxRecDepth 20000 in
theorem gL_law_L_until : GoodIn wsL_law (va_wsS RL 166 yL_until wsL_until) := goodIn_app (goodIn_of _ (by decide +kernel)) ggL_law_L_until
set_option maxRecDepth 20000 in
theorem ggL_law_X5_until : GoodIn wsL_law wsX5_until := goodIn_r _ [644, 122, 219, 220, 221, 5, 222, 123, 127, 128, 129, 130, 131, 132, 133, 645, 646, 647, 648, 74, 79, 649, 628, 629, 630, 75, 80, 76, 81, 77, 82, 78, 83, 408, 409, 410, 411, 70, 253, 254, 255, 256, 608, 609, 610, 611, 180, 283, 269, 36, 270, 152, 284, 285, 286, 287, 288, 289, 290, 291, 72, 292, 293, 294, 295, 296, 297, 298, 299, 231, 232, 233, 300, 301, 302, 303, 612, 613, 614, 615, 73, 71, 400, 401, 402, 403, 404, 405, 406, 407, 164, 165, 166, 167, 650, 651, 652, 653, 718, 719, 720, 721, 722, 723, 724, 725, 726, 727, 728, 729, 730, 731, 732, 733, 734, 735, 736] (by decide +kernel) (by decide +kernel)
set_option maxRecDepth 20000 in
theorem gL_law_X5_until : GoodIn wsL_law (wsV RL 168 RX5 yX5_until wsX5_until) := goodIn_app (goodIn_of _ (by decide +kernel)) ggL_law_X5_until
set_option maxRecDepth 20000 in
theorem ggL_law_L_foresee : GoodIn wsL_law wsL_foresee := goodIn_ca (goodIn_ca (goodIn_r _ [656, 89, 88, 657, 658, 659, 2, 660, 102, 103, 25, 24, 107, 108, 109, 110, 111, 104, 105, 106, 623, 624, 625, 23, 626, 481, 46, 580, 50, 53, 627, 628, 629, 630, 581, 579, 54, 631, 632, 633, 48, 634, 116, 59, 117, 60, 635, 636, 637, 638, 52, 639, 596, 65, 640, 571, 572, 573, 574, 575, 576, 577, 578, 582, 583, 584, 585, 268, 269, 36, 270, 271, 272, 273, 274, 275, 276, 277, 16, 278, 33, 31, 586, 587, 588, 589, 590, 482, 591, 592, 593, 594, 595, 597, 598, 599, 600, 601, 367, 368, 369, 30, 32, 602, 371, 372, 373, 603, 246, 247, 248, 523, 524, 525, 526, 483, 521, 522, 527, 379, 380, 381, 712, 713, 714, 715, 716, 717, 741, 742, 743, 744, 745, 746, 747, 748, 749, 750, 751, 752, 753, 754, 755, 737, 738, 739, 740] (by decide +kernel) (by decide +kernel)) (goodIn_sub (fun _ h => List.mem_append_left _ (List.mem_append_right _ h)) (by decide +kernel))) (goodIn_sub (fun _ h => List.mem_append_right _ h) (by decide +kernel))
set_option maxRecDepth 20000 in
theorem gL_law_L_foresee : GoodIn wsL_law (va_wsS RL 169 yL_foresee wsL_foresee) := goodIn_app (goodIn_of _ (by decide +kernel)) ggL_law_L_foresee
set_option maxRecDepth 20000 in
theorem ggL_law_X5_foresee : GoodIn wsL_law wsX5_foresee := goodIn_r _ [664, 122, 127, 128, 5, 129, 130, 131, 132, 133, 645, 646, 647, 648, 74, 79, 649, 628, 629, 630, 75, 80, 76, 81, 77, 82, 78, 83, 608, 609, 610, 611, 123, 180, 283, 269, 36, 270, 152, 284, 285, 286, 287, 288, 289, 290, 291, 72, 292, 293, 294, 295, 296, 297, 298, 299, 231, 232, 233, 300, 301, 302, 303, 253, 254, 255, 256, 612, 613, 614, 615, 73, 71, 400, 401, 402, 403, 404, 405, 406, 407, 164, 165, 166, 167, 532, 533, 534, 535, 536, 70, 537, 538, 539, 540, 488, 489, 490, 491, 492, 493, 494, 495, 408, 409, 410, 411, 650, 651, 652, 653, 718, 719, 720, 721, 722, 723, 724, 725, 726, 727, 728, 729, 730, 731, 732, 733, 734, 735, 736] (by decide +kernel) (by decide +kernel)
set_option maxRecDepth 20000 in
theorem gL_law_X5_foresee : GoodIn wsL_law (wsV RL 171 RX5 yX5_foresee wsX5_foresee) := goodIn_app (goodIn_of _ (by decide +kernel)) ggL_law_X5_foresee
set_option maxRecDepth 20000 in
theorem ggL_law_L_would : GoodIn wsL_law wsL_would := goodIn_ca (goodIn_r _ [667, 88, 668, 669, 670, 2, 671, 24, 98, 363, 201, 188, 202, 203, 204, 205, 102, 103, 97, 104, 105, 106, 378, 379, 380, 48, 381, 117, 60, 366, 367, 368, 16, 369, 30, 32, 712, 713, 714, 715, 716, 717, 741, 742, 743, 744, 745, 746, 747, 748, 749, 750, 751, 752, 737, 738, 739, 740] (by decide +kernel) (by decide +kernel)) (goodIn_sub (fun _ h => List.mem_append_left _ (List.mem_append_right _ h)) (by decide +kernel))
set_option maxRecDepth 20000 in
theorem gL_law_L_would : GoodIn wsL_law (va_wsS RL 172 yL_would wsL_would) := goodIn_app (goodIn_of _ (by decide +kernel)) ggL_law_L_would
set_option maxRecDepth 20000 in
theorem ggL_law_X5_would : GoodIn wsL_law wsX5_would := goodIn_r _ [675, 122, 74, 219, 220, 221, 5, 222, 123, 127, 128, 129, 408, 409, 410, 411, 70, 253, 254, 255, 256, 75, 400, 401, 402, 403, 296, 297, 298, 299, 72, 231, 232, 233, 130, 131, 132, 133, 718, 719, 720, 721, 722, 723, 724, 725, 726, 727, 728, 729, 730, 731, 732, 733, 734, 735, 736] (by decide +kernel) (by decide +kernel)
set_option maxRecDepth 20000 in
theorem gL_law_X5_would : GoodIn wsL_law (wsV RL 174 RX5 yX5_would wsX5_would) := goodIn_app (goodIn_of _ (by decide +kernel)) ggL_law_X5_would
set_option maxRecDepth 20000 in
theorem ggL_law_X4_advise : GoodIn wsL_law wsX4_advise := goodIn_r _ [679, 24, 97, 98, 188, 201, 378, 379, 380, 48, 381, 117, 60, 712, 713, 714, 715, 716, 717, 741, 742, 743, 744, 745, 746, 747, 748, 749, 750, 751, 752] (by decide +kernel) (by decide +kernel)
set_option maxRecDepth 20000 in
theorem gL_law_X4_advise : GoodIn wsL_law (wsV RL 175 RX4 yX4_advise wsX4_advise) := goodIn_app (goodIn_of _ (by decide +kernel)) ggL_law_X4_advise
set_option maxRecDepth 20000 in
theorem ggL_law_X5_advise : GoodIn wsL_law wsX5_advise := goodIn_r _ [683, 122, 123, 74, 408, 409, 410, 5, 411, 70, 253, 254, 255, 256, 75, 718, 719, 720, 721, 722, 723, 724, 725, 726, 727, 728, 729, 730, 731, 732, 733, 734, 735, 736] (by decide +kernel) (by decide +kernel)
set_option maxRecDepth 20000 in
theorem gL_law_X5_advise : GoodIn wsL_law (wsV RL 178 RX5 yX5_advise wsX5_advise) := goodIn_app (goodIn_of _ (by decide +kernel)) ggL_law_X5_advise
set_option maxRecDepth 20000 in
theorem ggL_law_X4_mean : GoodIn wsL_law wsX4_mean := goodIn_r _ [687, 24, 97, 98, 201, 387, 388, 389, 48, 390, 117, 60, 712, 713, 714, 715, 716, 717, 741, 742, 743, 744, 745, 746, 747, 748, 749, 750, 751, 752] (by decide +kernel) (by decide +kernel)
set_option maxRecDepth 20000 in
theorem gL_law_X4_mean : GoodIn wsL_law (wsV RL 179 RX4 yX4_mean wsX4_mean) := goodIn_app (goodIn_of _ (by decide +kernel)) ggL_law_X4_mean
set_option maxRecDepth 20000 in
theorem ggL_law_X5_mean : GoodIn wsL_law wsX5_mean := goodIn_r _ [691, 122, 123, 395, 396, 397, 5, 398, 71, 72, 74, 399, 35, 36, 37, 231, 232, 233, 400, 401, 402, 403, 296, 297, 298, 299, 404, 405, 406, 407, 284, 285, 286, 287, 288, 289, 290, 291, 292, 293, 294, 295, 300, 301, 302, 303, 127, 128, 129, 408, 409, 410, 411, 70, 253, 254, 255, 256, 75, 537, 538, 539, 540, 488, 489, 490, 491, 76, 492, 493, 494, 495, 718, 719, 720, 721, 722, 723, 724, 725, 726, 727, 728, 729, 730, 731, 732, 733, 734, 735, 736] (by decide +kernel) (by decide +kernel)
set_option maxRecDepth 20000 in
theorem gL_law_X5_mean : GoodIn wsL_law (wsV RL 183 RX5 yX5_mean wsX5_mean) := goodIn_app (goodIn_of _ (by decide +kernel)) ggL_law_X5_mean
set_option maxRecDepth 20000 in
theorem ggL_law_X4_digest : GoodIn wsL_law wsX4_digest := goodIn_ca (goodIn_r _ [695, 696, 697, 24, 97, 145, 698, 516, 517, 2, 518, 102, 103, 519, 18, 19, 20, 175, 188, 520, 521, 522, 523, 524, 525, 23, 526, 53, 481, 46, 54, 483, 527, 379, 380, 48, 381, 117, 60, 699, 474, 475, 476, 335, 99, 100, 101, 104, 105, 106, 477, 478, 479, 480, 482, 700, 701, 702, 703, 98, 201, 704, 360, 361, 362, 200, 363, 364, 365, 202, 203, 204, 205, 366, 367, 368, 16, 369, 30, 32, 370, 371, 372, 373, 374, 375, 376, 377, 271, 272, 273, 274, 59, 275, 276, 277, 278, 33, 31, 378, 382, 383, 384, 385, 386, 35, 36, 37, 387, 388, 389, 390, 419, 420, 421, 422, 705, 500, 501, 502, 146, 147, 347, 503, 348, 349, 350, 351, 712, 713, 714, 715, 716, 717, 741, 742, 743, 744, 745, 746, 747, 748, 749, 750, 751, 752, 737, 738, 739, 740, 753, 754, 755] (by decide +kernel) (by decide +kernel)) (goodIn_sub (fun _ h => List.mem_append_left _ (List.mem_append_right _ h)) (by decide +kernel))
set_option maxRecDepth 20000 in
theorem gL_law_X4_digest : GoodIn wsL_law (wsV RL 184 RX4 yX4_digest wsX4_digest) := goodIn_app (goodIn_of _ (by decide +kernel)) ggL_law_X4_digest
set_option maxRecDepth 20000 in
theorem ggL_law_X5_digest : GoodIn wsL_law wsX5_digest := goodIn_r _ [709, 122, 710, 711, 123, 74, 152, 532, 533, 534, 5, 535, 536, 180, 70, 537, 538, 539, 540, 488, 489, 490, 491, 76, 492, 493, 494, 495, 71, 408, 409, 410, 411, 253, 254, 255, 256, 75, 395, 396, 397, 398, 72, 399, 35, 36, 37, 231, 232, 233, 400, 401, 402, 403, 296, 297, 298, 299, 404, 405, 406, 407, 284, 285, 286, 287, 288, 289, 290, 291, 292, 293, 294, 295, 300, 301, 302, 303, 127, 128, 129, 508, 509, 510, 511, 73, 77, 78, 718, 719, 720, 721, 722, 723, 724, 725, 726, 727, 728, 729, 730, 731, 732, 733, 734, 735, 736] (by decide +kernel) (by decide +kernel)
set_option maxRecDepth 20000 in
theorem gL_law_X5_digest : GoodIn wsL_law (wsV RL 188 RX5 yX5_digest wsX5_digest) := goodIn_app (goodIn_of _ (by decide +kernel)) ggL_law_X5_digest
