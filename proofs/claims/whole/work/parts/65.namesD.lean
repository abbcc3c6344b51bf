set_option maxRecDepth 20000 in
theorem ggL_law_X5_about : GoodIn wsL_law wsX5_about := goodIn_r _ [425, 132, 242, 243, 244, 5, 245, 133, 137, 138, 139, 426, 427, 428, 429, 81, 82, 84, 430, 38, 39, 40, 254, 255, 256, 431, 432, 433, 434, 323, 324, 325, 326, 435, 436, 437, 438, 311, 312, 313, 314, 315, 316, 317, 318, 319, 320, 321, 322, 327, 328, 329, 330, 439, 440, 441, 442, 80, 280, 281, 282, 283, 85, 140, 141, 142, 143, 753, 754, 755, 756, 757, 758, 759, 760, 761, 762, 763, 764, 765, 766, 767, 768, 769, 770, 771] (by decide +kernel) (by decide +kernel)
set_option maxRecDepth 20000 in
theorem gL_law_X5_about : GoodIn wsL_law (wsV RL 139 RX5 yX5_about wsX5_about) := goodIn_app (goodIn_of _ (by decide +kernel)) ggL_law_X5_about
set_option maxRecDepth 20000 in
theorem ggL_law_L_ball : GoodIn wsL_law wsL_ball := goodIn_ca (goodIn_r _ [445, 98, 446, 447, 448, 2, 449, 112, 113, 26, 108, 219, 394, 220, 221, 222, 223, 107, 114, 115, 116, 450, 273, 274, 56, 275, 69, 451, 452, 453, 16, 454, 455, 402, 403, 404, 32, 35, 456, 457, 458, 459, 460, 461, 462, 463, 464, 33, 465, 466, 467, 468, 469, 299, 300, 301, 68, 127, 302, 303, 304, 305, 36, 470, 471, 472, 473, 474, 417, 38, 39, 40, 295, 296, 297, 475, 476, 477, 478, 479, 480, 481, 747, 748, 749, 750, 751, 752, 777, 778, 779, 780, 781, 782, 783, 784, 785, 786, 787, 788, 772, 773, 774, 775] (by decide +kernel) (by decide +kernel)) (goodIn_sub (fun _ h => List.mem_append_left _ (List.mem_append_right _ h)) (by decide +kernel))
set_option maxRecDepth 20000 in
theorem gL_law_L_ball : GoodIn wsL_law (va_wsS RL 140 yL_ball wsL_ball) := goodIn_app (goodIn_of _ (by decide +kernel)) ggL_law_L_ball
set_option maxRecDepth 20000 in
theorem ggL_law_X5_ball : GoodIn wsL_law wsX5_ball := goodIn_r _ [485, 132, 84, 310, 296, 39, 297, 242, 243, 244, 5, 245, 133, 137, 138, 139, 140, 141, 142, 143, 280, 281, 282, 283, 85, 315, 316, 317, 318, 82, 319, 320, 321, 322, 323, 324, 325, 326, 254, 255, 256, 311, 312, 313, 314, 327, 328, 329, 330, 753, 754, 755, 756, 757, 758, 759, 760, 761, 762, 763, 764, 765, 766, 767, 768, 769, 770, 771] (by decide +kernel) (by decide +kernel)
set_option maxRecDepth 20000 in
theorem gL_law_X5_ball : GoodIn wsL_law (wsV RL 143 RX5 yX5_ball wsX5_ball) := goodIn_app (goodIn_of _ (by decide +kernel)) ggL_law_X5_ball
set_option maxRecDepth 20000 in
theorem ggL_law_L_at : GoodIn wsL_law wsL_at := goodIn_ca (goodIn_r _ [488, 98, 489, 490, 491, 2, 492, 112, 113, 26, 108, 394, 395, 219, 220, 221, 222, 223, 107, 114, 115, 116, 493, 479, 480, 16, 481, 32, 461, 462, 463, 464, 35, 33, 747, 748, 749, 750, 751, 752, 777, 778, 779, 780, 781, 782, 783, 784, 785, 786, 787, 788, 772, 773, 774, 775] (by decide +kernel) (by decide +kernel)) (goodIn_sub (fun _ h => List.mem_append_left _ (List.mem_append_right _ h)) (by decide +kernel))
set_option maxRecDepth 20000 in
theorem gL_law_L_at : GoodIn wsL_law (va_wsS RL 144 yL_at wsL_at) := goodIn_app (goodIn_of _ (by decide +kernel)) ggL_law_L_at
set_option maxRecDepth 20000 in
theorem ggL_law_X5_at : GoodIn wsL_law wsX5_at := goodIn_r _ [497, 132, 82, 242, 243, 244, 5, 245, 133, 137, 138, 139, 140, 141, 142, 143, 327, 328, 329, 330, 84, 323, 324, 325, 326, 254, 255, 256, 753, 754, 755, 756, 757, 758, 759, 760, 761, 762, 763, 764, 765, 766, 767, 768, 769, 770, 771] (by decide +kernel) (by decide +kernel)
set_option maxRecDepth 20000 in
theorem gL_law_X5_at : GoodIn wsL_law (wsV RL 147 RX5 yX5_at wsX5_at) := goodIn_app (goodIn_of _ (by decide +kernel)) ggL_law_X5_at
set_option maxRecDepth 20000 in
theorem ggL_law_L_told : GoodIn wsL_law wsL_told := goodIn_ca (goodIn_r _ [500, 98, 501, 502, 503, 2, 504, 112, 113, 20, 26, 362, 21, 22, 109, 110, 111, 114, 115, 116, 174, 175, 176, 19, 177, 48, 505, 506, 507, 25, 508, 509, 54, 510, 511, 747, 748, 749, 750, 751, 752, 777, 778, 779, 780, 781, 782, 783, 784, 776, 785, 786, 787, 788] (by decide +kernel) (by decide +kernel)) (goodIn_sub (fun _ h => List.mem_append_left _ (List.mem_append_right _ h)) (by decide +kernel))
set_option maxRecDepth 20000 in
theorem gL_law_L_told : GoodIn wsL_law (va_wsS RL 148 yL_told wsL_told) := goodIn_app (goodIn_of _ (by decide +kernel)) ggL_law_L_told
set_option maxRecDepth 20000 in
theorem ggL_law_X5_told : GoodIn wsL_law wsX5_told := goodIn_r _ [515, 132, 134, 135, 5, 136, 137, 138, 139, 516, 517, 518, 519, 86, 520, 521, 522, 523, 133, 81, 84, 140, 141, 142, 143, 753, 754, 755, 756, 757, 758, 759, 760, 761, 762, 763, 764, 765, 766, 767, 768, 769, 770, 771] (by decide +kernel) (by decide +kernel)
set_option maxRecDepth 20000 in
theorem gL_law_X5_told : GoodIn wsL_law (wsV RL 150 RX5 yX5_told wsX5_told) := goodIn_app (goodIn_of _ (by decide +kernel)) ggL_law_X5_told
set_option maxRecDepth 20000 in
theorem ggL_law_L_mouser : GoodIn wsL_law wsL_mouser := goodIn_ca (goodIn_r _ [526, 98, 527, 528, 529, 2, 530, 112, 113, 26, 156, 157, 378, 531, 379, 380, 381, 382, 155, 114, 115, 116, 747, 748, 749, 750, 751, 752, 777, 778, 779, 780, 781, 782, 783, 784, 789, 790, 791] (by decide +kernel) (by decide +kernel)) (goodIn_sub (fun _ h => List.mem_append_left _ (List.mem_append_right _ h)) (by decide +kernel))
set_option maxRecDepth 20000 in
theorem gL_law_L_mouser : GoodIn wsL_law (va_wsS RL 151 yL_mouser wsL_mouser) := goodIn_app (goodIn_of _ (by decide +kernel)) ggL_law_L_mouser
set_option maxRecDepth 20000 in
theorem ggL_law_X5_mouser : GoodIn wsL_law wsX5_mouser := goodIn_r _ [535, 132, 162, 137, 138, 5, 139, 536, 537, 538, 539, 83, 87, 88, 140, 141, 142, 143, 753, 754, 755, 756, 757, 758, 759, 760, 761, 762, 763, 764, 765, 766, 767, 768, 769, 770, 771] (by decide +kernel) (by decide +kernel)
set_option maxRecDepth 20000 in
theorem gL_law_X5_mouser : GoodIn wsL_law (wsV RL 153 RX5 yX5_mouser wsX5_mouser) := goodIn_app (goodIn_of _ (by decide +kernel)) ggL_law_X5_mouser
set_option maxRecDepth 20000 in
theorem ggL_law_L_count : GoodIn wsL_law wsL_count := goodIn_ca (goodIn_r _ [542, 98, 543, 544, 545, 2, 546, 112, 113, 26, 547, 107, 155, 20, 21, 22, 193, 206, 363, 364, 365, 19, 366, 48, 548, 549, 550, 25, 551, 62, 509, 54, 63, 511, 552, 553, 410, 411, 56, 412, 127, 272, 273, 274, 275, 69, 747, 748, 749, 750, 751, 752, 777, 778, 779, 780, 781, 782, 783, 784, 776, 785, 786, 787, 788] (by decide +kernel) (by decide +kernel)) (goodIn_sub (fun _ h => List.mem_append_left _ (List.mem_append_right _ h)) (by decide +kernel))
set_option maxRecDepth 20000 in
theorem gL_law_L_count : GoodIn wsL_law (va_wsS RL 154 yL_count wsL_count) := goodIn_app (goodIn_of _ (by decide +kernel)) ggL_law_L_count
set_option maxRecDepth 20000 in
theorem ggL_law_X5_count : GoodIn wsL_law wsX5_count := goodIn_r _ [557, 132, 137, 138, 5, 139, 558, 559, 560, 561, 562, 133, 162, 198, 80, 563, 564, 565, 566, 516, 517, 518, 519, 86, 520, 521, 522, 523, 81, 84, 439, 440, 441, 442, 280, 281, 282, 283, 85, 140, 141, 142, 143, 753, 754, 755, 756, 757, 758, 759, 760, 761, 762, 763, 764, 765, 766, 767, 768, 769, 770, 771] (by decide +kernel) (by decide +kernel)
set_option maxRecDepth 20000 in
theorem gL_law_X5_count : GoodIn wsL_law (wsV RL 156 RX5 yX5_count wsX5_count) := goodIn_app (goodIn_of _ (by decide +kernel)) ggL_law_X5_count
set_option maxRecDepth 20000 in
theorem ggL_law_L_room : GoodIn wsL_law wsL_room := goodIn_ca (goodIn_r _ [569, 99, 570, 571, 572, 2, 573, 117, 118, 119, 120, 121, 114, 115, 116, 574, 42, 16, 43] (by decide +kernel) (by decide +kernel)) (goodIn_sub (fun _ h => List.mem_append_right _ h) (by decide +kernel))
set_option maxRecDepth 20000 in
theorem gL_law_L_room : GoodIn wsL_law (va_wsS RL 157 yL_room wsL_room) := goodIn_app (goodIn_of _ (by decide +kernel)) ggL_law_L_room
set_option maxRecDepth 20000 in
theorem ggL_law_X5_room_ : GoodIn wsL_law wsX5_room_ := goodIn_r _ [578, 132, 137, 138, 5, 139, 254, 255, 256, 140, 141, 142, 143, 753, 754, 755, 756, 757, 758, 759, 760, 761, 762, 763, 764, 765, 766, 767, 768, 769, 770, 771] (by decide +kernel) (by decide +kernel)
set_option maxRecDepth 20000 in
theorem gL_law_X5_room_ : GoodIn wsL_law (wsV RL 159 RX5 yX5_room_ wsX5_room_) := goodIn_app (goodIn_of _ (by decide +kernel)) ggL_law_X5_room_
set_option maxRecDepth 20000 in
theorem ggL_law_L_side : GoodIn wsL_law wsL_side := goodIn_ca (goodIn_r _ [581, 99, 582, 583, 584, 2, 585, 117, 118, 119, 120, 121, 114, 115, 116, 574, 42, 16, 43] (by decide +kernel) (by decide +kernel)) (goodIn_sub (fun _ h => List.mem_append_right _ h) (by decide +kernel))
set_option maxRecDepth 20000 in
theorem gL_law_L_side : GoodIn wsL_law (va_wsS RL 160 yL_side wsL_side) := goodIn_app (goodIn_of _ (by decide +kernel)) ggL_law_L_side
set_option maxRecDepth 20000 in
theorem ggL_law_X5_side : GoodIn wsL_law wsX5_side := goodIn_r _ [589, 132, 254, 255, 5, 256, 137, 138, 139, 140, 141, 142, 143, 753, 754, 755, 756, 757, 758, 759, 760, 761, 762, 763, 764, 765, 766, 767, 768, 769, 770, 771] (by decide +kernel) (by decide +kernel)
set_option maxRecDepth 20000 in
theorem gL_law_X5_side : GoodIn wsL_law (wsV RL 162 RX5 yX5_side wsX5_side) := goodIn_app (goodIn_of _ (by decide +kernel)) ggL_law_X5_side
set_option maxRecDepth 20000 in
theorem ggL_law_L_pass : GoodIn wsL_law wsL_pass := goodIn_ca (goodIn_r _ [592, 99, 593, 594, 595, 2, 596, 26, 117, 118, 119, 120, 121, 114, 115, 116, 597, 598, 599, 25, 600, 601, 602, 603, 604, 509, 54, 605, 606, 58, 607, 608, 609, 610, 56, 611, 127, 295, 296, 39, 297, 298, 299, 300, 301, 68, 302, 303, 304, 16, 305, 36, 33, 272, 273, 274, 275, 69, 234, 235, 236, 237, 612, 613, 614, 615, 616, 62, 510, 617, 618, 619, 620, 60, 621, 74, 622, 623, 624, 625, 626, 627, 628, 629, 630, 631, 398, 399, 400, 32, 35, 632, 402, 403, 404, 633, 269, 270, 271, 634, 171, 172, 19, 173, 48, 747, 748, 749, 750, 751, 752, 777, 778, 779, 780, 781, 782, 783, 784, 785, 786, 787, 788, 772, 773, 774, 775, 789, 790, 791, 776] (by decide +kernel) (by decide +kernel)) (goodIn_sub (fun _ h => List.mem_append_right _ h) (by decide +kernel))
set_option maxRecDepth 20000 in
theorem gL_law_L_pass : GoodIn wsL_law (va_wsS RL 163 yL_pass wsL_pass) := goodIn_app (goodIn_of _ (by decide +kernel)) ggL_law_L_pass
set_option maxRecDepth 20000 in
theorem ggL_law_X5_pass : GoodIn wsL_law wsX5_pass := goodIn_r _ [638, 132, 562, 137, 138, 5, 139, 140, 141, 142, 143, 563, 564, 565, 566, 516, 517, 518, 519, 86, 520, 521, 522, 523, 133, 81, 84, 639, 640, 641, 642, 198, 85, 310, 296, 39, 297, 162, 311, 312, 313, 314, 315, 316, 317, 318, 82, 319, 320, 321, 322, 323, 324, 325, 326, 254, 255, 256, 327, 328, 329, 330, 280, 281, 282, 283, 643, 644, 645, 646, 87, 83, 88, 431, 432, 433, 434, 435, 436, 437, 438, 182, 183, 184, 185, 753, 754, 755, 756, 757, 758, 759, 760, 761, 762, 763, 764, 765, 766, 767, 768, 769, 770, 771] (by decide +kernel) (by decide +kernel)
set_option maxRecDepth 20000 in
theorem gL_law_X5_pass : GoodIn wsL_law (wsV RL 165 RX5 yX5_pass wsX5_pass) := goodIn_app (goodIn_of _ (by decide +kernel)) ggL_law_X5_pass
set_option maxRecDepth 20000 in
theorem ggL_law_L_until : GoodIn wsL_law wsL_until := goodIn_ca (goodIn_r _ [649, 98, 650, 651, 652, 2, 653, 27, 26, 108, 206, 220, 221, 222, 223, 112, 113, 107, 114, 115, 116, 654, 655, 656, 25, 657, 509, 54, 606, 58, 62, 607, 605, 63, 658, 659, 660, 56, 661, 126, 68, 127, 69, 662, 663, 664, 665, 666, 667, 668, 60, 669, 622, 74, 670, 671, 672, 673, 19, 674, 48, 675, 409, 410, 411, 412, 272, 273, 274, 275, 597, 598, 599, 600, 601, 602, 603, 604, 608, 609, 610, 611, 295, 296, 39, 297, 298, 299, 300, 301, 302, 303, 304, 16, 305, 36, 33, 234, 235, 236, 237, 612, 613, 614, 615, 616, 510, 617, 618, 619, 620, 621, 623, 624, 625, 626, 627, 628, 629, 630, 631, 398, 399, 400, 32, 35, 632, 402, 403, 404, 633, 269, 270, 271, 634, 171, 172, 173, 747, 748, 749, 750, 751, 752, 777, 778, 779, 780, 781, 782, 783, 784, 785, 786, 787, 788, 789, 790, 791, 776, 772, 773, 774, 775] (by decide +kernel) (by decide +kernel)) (goodIn_sub (fun _ h => List.mem_append_left _ (List.mem_append_right _ h)) (by decide +kernel))
set_option maxRecDepth 20000 in
theorem gL_law_L_until : GoodIn wsL_law (va_wsS RL 166 yL_until wsL_until) := goodIn_app (goodIn_of _ (by decide +kernel)) ggL_law_L_until
set_option maxRecDepth 20000 in
theorem ggL_law_X5_until : GoodIn wsL_law wsX5_until := goodIn_r _ [679, 132, 242, 243, 244, 5, 245, 133, 137, 138, 139, 140, 141, 142, 143, 680, 681, 682, 683, 84, 89, 684, 663, 664, 665, 85, 90, 86, 91, 87, 92, 88, 93, 439, 440, 441, 442, 80, 280, 281, 282, 283, 639, 640, 641, 642, 198, 310, 296, 39, 297, 162, 311, 312, 313, 314, 315, 316, 317, 318, 82, 319, 320, 321, 322, 323, 324, 325, 326, 254, 255, 256, 327, 328, 329, 330, 643, 644, 645, 646, 83, 81, 431, 432, 433, 434, 435, 436, 437, 438, 182, 183, 184, 185, 685, 686, 687, 688, 753, 754, 755, 756, 757, 758, 759, 760, 761, 762, 763, 764, 765, 766, 767, 768, 769, 770, 771] (by decide +kernel) (by decide +kernel)
set_option maxRecDepth 20000 in
theorem gL_law_X5_until : GoodIn wsL_law (wsV RL 168 RX5 yX5_until wsX5_until) := goodIn_app (goodIn_of _ (by decide +kernel)) ggL_law_X5_until
set_option maxRecDepth 20000 in
theorem ggL_law_L_foresee : GoodIn wsL_law wsL_foresee := goodIn_ca (goodIn_ca (goodIn_r _ [691, 99, 98, 692, 693, 694, 2, 695, 112, 113, 27, 26, 117, 118, 119, 120, 121, 114, 115, 116, 654, 655, 656, 25, 657, 509, 54, 606, 58, 62, 607, 605, 63, 658, 659, 660, 56, 661, 126, 68, 127, 69, 662, 663, 664, 665, 666, 667, 668, 60, 669, 622, 74, 670, 671, 672, 673, 19, 674, 48, 675, 597, 598, 599, 600, 601, 602, 603, 604, 608, 609, 610, 611, 295, 296, 39, 297, 298, 299, 300, 301, 302, 303, 304, 16, 305, 36, 33, 272, 273, 274, 275, 234, 235, 236, 237, 612, 613, 614, 615, 616, 510, 617, 618, 619, 620, 621, 623, 624, 625, 626, 627, 628, 629, 630, 631, 398, 399, 400, 32, 35, 632, 402, 403, 404, 633, 269, 270, 271, 634, 171, 172, 173, 548, 549, 550, 551, 511, 552, 364, 365, 366, 553, 410, 411, 412, 747, 748, 749, 750, 751, 752, 777, 778, 779, 780, 781, 782, 783, 784, 785, 786, 787, 788, 789, 790, 791, 776, 772, 773, 774, 775] (by decide +kernel) (by decide +kernel)) (goodIn_sub (fun _ h => List.mem_append_left _ (List.mem_append_right _ h)) (by decide +kernel))) (goodIn_sub (fun _ h => List.mem_append_right _ h) (by decide +kernel))
set_option maxRecDepth 20000 in
theorem gL_law_L_foresee : GoodIn wsL_law (va_wsS RL 169 yL_foresee wsL_foresee) := goodIn_app (goodIn_of _ (by decide +kernel)) ggL_law_L_foresee
set_option maxRecDepth 20000 in
theorem ggL_law_X5_foresee : GoodIn wsL_law wsX5_foresee := goodIn_r _ [699, 132, 137, 138, 5, 139, 140, 141, 142, 143, 680, 681, 682, 683, 84, 89, 684, 663, 664, 665, 85, 90, 86, 91, 87, 92, 88, 93, 639, 640, 641, 642, 133, 198, 310, 296, 39, 297, 162, 311, 312, 313, 314, 315, 316, 317, 318, 82, 319, 320, 321, 322, 323, 324, 325, 326, 254, 255, 256, 327, 328, 329, 330, 280, 281, 282, 283, 643, 644, 645, 646, 83, 81, 431, 432, 433, 434, 435, 436, 437, 438, 182, 183, 184, 185, 558, 559, 560, 561, 562, 80, 563, 564, 565, 566, 516, 517, 518, 519, 520, 521, 522, 523, 439, 440, 441, 442, 685, 686, 687, 688, 753, 754, 755, 756, 757, 758, 759, 760, 761, 762, 763, 764, 765, 766, 767, 768, 769, 770, 771] (by decide +kernel) (by decide +kernel)
set_option maxRecDepth 20000 in
theorem gL_law_X5_foresee : GoodIn wsL_law (wsV RL 171 RX5 yX5_foresee wsX5_foresee) := goodIn_app (goodIn_of _ (by decide +kernel)) ggL_law_X5_foresee
set_option maxRecDepth 20000 in
theorem ggL_law_L_would : GoodIn wsL_law wsL_would := goodIn_ca (goodIn_r _ [702, 98, 703, 704, 705, 2, 706, 26, 108, 394, 219, 206, 220, 221, 222, 223, 112, 113, 107, 114, 115, 116, 409, 410, 411, 56, 412, 127, 272, 273, 274, 275, 69, 397, 398, 399, 16, 400, 32, 35, 747, 748, 749, 750, 751, 752, 777, 778, 779, 780, 781, 782, 783, 784, 785, 786, 787, 788, 772, 773, 774, 775] (by decide +kernel) (by decide +kernel)) (goodIn_sub (fun _ h => List.mem_append_left _ (List.mem_append_right _ h)) (by decide +kernel))
set_option maxRecDepth 20000 in
theorem gL_law_L_would : GoodIn wsL_law (va_wsS RL 172 yL_would wsL_would) := goodIn_app (goodIn_of _ (by decide +kernel)) ggL_law_L_would
set_option maxRecDepth 20000 in
theorem ggL_law_X5_would : GoodIn wsL_law wsX5_would := goodIn_r _ [710, 132, 84, 242, 243, 244, 5, 245, 133, 137, 138, 139, 439, 440, 441, 442, 80, 280, 281, 282, 283, 85, 431, 432, 433, 434, 323, 324, 325, 326, 82, 254, 255, 256, 140, 141, 142, 143, 753, 754, 755, 756, 757, 758, 759, 760, 761, 762, 763, 764, 765, 766, 767, 768, 769, 770, 771] (by decide +kernel) (by decide +kernel)
set_option maxRecDepth 20000 in
theorem gL_law_X5_would : GoodIn wsL_law (wsV RL 174 RX5 yX5_would wsX5_would) := goodIn_app (goodIn_of _ (by decide +kernel)) ggL_law_X5_would
set_option maxRecDepth 20000 in
theorem ggL_law_X4_advise : GoodIn wsL_law wsX4_advise := goodIn_r _ [714, 26, 107, 108, 206, 219, 409, 410, 411, 56, 412, 127, 272, 273, 274, 275, 69, 747, 748, 749, 750, 751, 752, 777, 778, 779, 780, 781, 782, 783, 784, 785, 786, 787, 788] (by decide +kernel) (by decide +kernel)
set_option maxRecDepth 20000 in
theorem gL_law_X4_advise : GoodIn wsL_law (wsV RL 175 RX4 yX4_advise wsX4_advise) := goodIn_app (goodIn_of _ (by decide +kernel)) ggL_law_X4_advise
set_option maxRecDepth 20000 in
theorem ggL_law_X5_advise : GoodIn wsL_law wsX5_advise := goodIn_r _ [718, 132, 133, 84, 439, 440, 441, 5, 442, 80, 280, 281, 282, 283, 85, 753, 754, 755, 756, 757, 758, 759, 760, 761, 762, 763, 764, 765, 766, 767, 768, 769, 770, 771] (by decide +kernel) (by decide +kernel)
set_option maxRecDepth 20000 in
theorem gL_law_X5_advise : GoodIn wsL_law (wsV RL 178 RX5 yX5_advise wsX5_advise) := goodIn_app (goodIn_of _ (by decide +kernel)) ggL_law_X5_advise
set_option maxRecDepth 20000 in
theorem ggL_law_X4_mean : GoodIn wsL_law wsX4_mean := goodIn_r _ [722, 26, 107, 108, 219, 418, 419, 420, 56, 421, 127, 272, 273, 274, 275, 69, 747, 748, 749, 750, 751, 752, 777, 778, 779, 780, 781, 782, 783, 784, 785, 786, 787, 788] (by decide +kernel) (by decide +kernel)
set_option maxRecDepth 20000 in
theorem gL_law_X4_mean : GoodIn wsL_law (wsV RL 179 RX4 yX4_mean wsX4_mean) := goodIn_app (goodIn_of _ (by decide +kernel)) ggL_law_X4_mean
set_option maxRecDepth 20000 in
theorem ggL_law_X5_mean : GoodIn wsL_law wsX5_mean := goodIn_r _ [726, 132, 133, 426, 427, 428, 5, 429, 81, 82, 84, 430, 38, 39, 40, 254, 255, 256, 431, 432, 433, 434, 323, 324, 325, 326, 435, 436, 437, 438, 311, 312, 313, 314, 315, 316, 317, 318, 319, 320, 321, 322, 327, 328, 329, 330, 137, 138, 139, 439, 440, 441, 442, 80, 280, 281, 282, 283, 85, 563, 564, 565, 566, 516, 517, 518, 519, 86, 520, 521, 522, 523, 753, 754, 755, 756, 757, 758, 759, 760, 761, 762, 763, 764, 765, 766, 767, 768, 769, 770, 771] (by decide +kernel) (by decide +kernel)
set_option maxRecDepth 20000 in
theorem gL_law_X5_mean : GoodIn wsL_law (wsV RL 183 RX5 yX5_mean wsX5_mean) := goodIn_app (goodIn_of _ (by decide +kernel)) ggL_law_X5_mean
set_option maxRecDepth 20000 in
theorem ggL_law_X4_digest : GoodIn wsL_law wsX4_digest := goodIn_ca (goodIn_r _ [730, 731, 732, 26, 107, 155, 733, 544, 545, 2, 546, 112, 113, 547, 20, 21, 22, 193, 206, 363, 364, 365, 19, 366, 48, 548, 549, 550, 25, 551, 62, 509, 54, 63, 511, 552, 553, 410, 411, 56, 412, 127, 272, 273, 274, 275, 69, 734, 502, 503, 504, 362, 109, 110, 111, 114, 115, 116, 174, 175, 176, 177, 505, 506, 507, 508, 510, 735, 736, 737, 738, 108, 219, 739, 391, 392, 393, 218, 394, 395, 396, 220, 221, 222, 223, 397, 398, 399, 16, 400, 32, 35, 401, 402, 403, 404, 405, 406, 407, 408, 298, 299, 300, 301, 68, 302, 303, 304, 305, 36, 33, 409, 413, 414, 415, 416, 417, 38, 39, 40, 418, 419, 420, 421, 450, 740, 528, 529, 530, 156, 157, 378, 531, 379, 380, 381, 382, 747, 748, 749, 750, 751, 752, 777, 778, 779, 780, 781, 782, 783, 784, 776, 785, 786, 787, 788, 772, 773, 774, 775, 789, 790, 791] (by decide +kernel) (by decide +kernel)) (goodIn_sub (fun _ h => List.mem_append_left _ (List.mem_append_right _ h)) (by decide +kernel))
set_option maxRecDepth 20000 in
theorem gL_law_X4_digest : GoodIn wsL_law (wsV RL 184 RX4 yX4_digest wsX4_digest) := goodIn_app (goodIn_of _ (by decide +kernel)) ggL_law_X4_digest
set_option maxRecDepth 20000 in
theorem ggL_law_X5_digest : GoodIn wsL_law wsX5_digest := goodIn_r _ [744, 132, 745, 746, 133, 84, 162, 558, 559, 560, 5, 561, 562, 198, 80, 563, 564, 565, 566, 516, 517, 518, 519, 86, 520, 521, 522, 523, 81, 439, 440, 441, 442, 280, 281, 282, 283, 85, 426, 427, 428, 429, 82, 430, 38, 39, 40, 254, 255, 256, 431, 432, 433, 434, 323, 324, 325, 326, 435, 436, 437, 438, 311, 312, 313, 314, 315, 316, 317, 318, 319, 320, 321, 322, 327, 328, 329, 330, 137, 138, 139, 536, 537, 538, 539, 83, 87, 88, 753, 754, 755, 756, 757, 758, 759, 760, 761, 762, 763, 764, 765, 766, 767, 768, 769, 770, 771] (by decide +kernel) (by decide +kernel)
set_option maxRecDepth 20000 in
theorem gL_law_X5_digest : GoodIn wsL_law (wsV RL 188 RX5 yX5_digest wsX5_digest) := goodIn_app (goodIn_of _ (by decide +kernel)) ggL_law_X5_digest
