theorem goodIn_c1 {big a : List Cond} {c : Cond} (hc : GoodIn big [c]) (ha : GoodIn big a) : GoodIn big (c :: a) := fun w h => (List.mem_cons.mp h).elim (fun e => hc w (List.mem_singleton.mpr e)) (ha w)
theorem dL_below_0 : decode cL_below 0 = .ok (.iload_n 0, 1) := by decide +kernel
theorem dL_below_1 : decode cL_below 1 = .ok (.ldc 7, 2) := by decide +kernel
theorem dL_below_3 : decode cL_below 3 = .ok (.iand, 1) := by decide +kernel
theorem dL_below_4 : decode cL_below 4 = .ok (.iload_n 1, 1) := by decide +kernel
theorem dL_below_5 : decode cL_below 5 = .ok (.irem, 1) := by decide +kernel
theorem dL_below_6 : decode cL_below 6 = .ok (.ireturn, 1) := by decide +kernel
theorem dL_cell_0 : decode cL_cell 0 = .ok (.iload_n 1, 1) := by decide +kernel
theorem dL_cell_1 : decode cL_cell 1 = .ok (.aload_n 0, 1) := by decide +kernel
theorem dL_cell_2 : decode cL_cell 2 = .ok (.arraylength, 1) := by decide +kernel
theorem dL_cell_3 : decode cL_cell 3 = .ok (.if_icmp .ge 9, 3) := by decide +kernel
theorem dL_cell_6 : decode cL_cell 6 = .ok (.aload_n 0, 1) := by decide +kernel
theorem dL_cell_7 : decode cL_cell 7 = .ok (.iload_n 1, 1) := by decide +kernel
theorem dL_cell_8 : decode cL_cell 8 = .ok (.iaload, 1) := by decide +kernel
theorem dL_cell_9 : decode cL_cell 9 = .ok (.goto 9, 3) := by decide +kernel
theorem dL_cell_12 : decode cL_cell 12 = .ok (.ldc 8, 2) := by decide +kernel
theorem dL_cell_14 : decode cL_cell 14 = .ok (.iload_n 1, 1) := by decide +kernel
theorem dL_cell_15 : decode cL_cell 15 = .ok (.iconst 3, 1) := by decide +kernel
theorem dL_cell_16 : decode cL_cell 16 = .ok (.iadd, 1) := by decide +kernel
theorem dL_cell_17 : decode cL_cell 17 = .ok (.imul, 1) := by decide +kernel
theorem dL_cell_18 : decode cL_cell 18 = .ok (.ireturn, 1) := by decide +kernel
set_option maxRecDepth 20000 in
theorem ggL_act_L_below : GoodIn wsL_act wsL_below := goodIn_r _ [25, 26] (by decide +kernel) (by decide +kernel)
set_option maxRecDepth 20000 in
theorem gL_act_L_below : GoodIn wsL_act (va_wsS RL 15 yL_below wsL_below) := goodIn_app (goodIn_of _ (by decide +kernel)) ggL_act_L_below
set_option maxRecDepth 20000 in
theorem ggL_act_X7_init : GoodIn wsL_act wsX7_init := goodIn_r _ [29, 30, 31, 32, 33, 34, 9, 35, 36, 37, 307, 308, 309, 310, 311] (by decide +kernel) (by decide +kernel)
set_option maxRecDepth 20000 in
theorem gL_act_X7_init : GoodIn wsL_act (wsX7_init) := ggL_act_X7_init
set_option maxRecDepth 20000 in
theorem ggL_act_X4_pile : GoodIn wsL_act wsX4_pile := goodIn_ca (goodIn_ca (goodIn_ca (goodIn_r _ [42, 43, 44, 45, 46, 47, 48, 49, 50, 41, 51, 52, 53, 54, 55, 56, 57, 58, 59, 60, 61, 62, 63, 64, 65, 66, 67, 68, 69, 312, 313, 314, 315, 316, 317, 318, 319, 320, 321, 322, 323, 324, 325, 326, 327, 328, 329] (by decide +kernel) (by decide +kernel)) (goodIn_sub (fun _ h => List.mem_cons_of_mem _ (List.mem_append_left _ (List.mem_append_left _ (List.mem_append_right _ h)))) (by decide +kernel))) (goodIn_sub (fun _ h => List.mem_cons_of_mem _ (List.mem_append_left _ (List.mem_append_right _ h))) (by decide +kernel))) (goodIn_sub (fun _ h => List.mem_cons_of_mem _ (List.mem_append_right _ h)) (by decide +kernel))
set_option maxRecDepth 20000 in
theorem gL_act_X4_pile : GoodIn wsL_act (wsV RL 33 RX4 yX4_pile wsX4_pile) := goodIn_app (goodIn_of _ (by decide +kernel)) ggL_act_X4_pile
set_option maxRecDepth 20000 in
theorem ggL_act_X4_cat : GoodIn wsL_act wsX4_cat := goodIn_ca (goodIn_ca (goodIn_r _ [73, 43, 44, 45, 74, 75, 76, 57, 58, 41, 59, 60, 61, 54, 55, 56, 312, 313, 314, 315, 316, 317, 318, 319, 320, 321, 322, 323, 324, 325, 330, 331, 332] (by decide +kernel) (by decide +kernel)) (goodIn_sub (fun _ h => List.mem_cons_of_mem _ (List.mem_append_left _ (List.mem_append_left _ (List.mem_append_right _ h)))) (by decide +kernel))) (goodIn_sub (fun _ h => List.mem_cons_of_mem _ (List.mem_append_right _ h)) (by decide +kernel))
set_option maxRecDepth 20000 in
theorem gL_act_X4_cat : GoodIn wsL_act (wsV RL 44 RX4 yX4_cat wsX4_cat) := goodIn_app (goodIn_of _ (by decide +kernel)) ggL_act_X4_cat
set_option maxRecDepth 20000 in
theorem ggL_act_X4_give : GoodIn wsL_act wsX4_give := goodIn_ca (goodIn_ca (goodIn_r _ [80, 81, 49, 50, 41, 51, 52, 53, 54, 55, 56, 57, 58, 59, 60, 61, 82, 83, 84, 85, 86, 87, 88, 89, 90, 91, 312, 313, 314, 315, 316, 317, 333] (by decide +kernel) (by decide +kernel)) (goodIn_sub (fun _ h => List.mem_cons_of_mem _ (List.mem_append_left _ (List.mem_append_right _ h))) (by decide +kernel))) (goodIn_sub (fun _ h => List.mem_cons_of_mem _ (List.mem_append_right _ h)) (by decide +kernel))
set_option maxRecDepth 20000 in
theorem gL_act_X4_give : GoodIn wsL_act (wsV RL 51 RX4 yX4_give wsX4_give) := goodIn_app (goodIn_of _ (by decide +kernel)) ggL_act_X4_give
set_option maxRecDepth 20000 in
theorem ggL_act_X4_setRain : GoodIn wsL_act wsX4_setRain := goodIn_ca (goodIn_r _ [95, 45, 96, 57, 58, 41, 59, 60, 61, 54, 55, 56, 312, 313, 314, 315, 316, 317, 318, 319, 320, 321, 322, 323, 324, 325] (by decide +kernel) (by decide +kernel)) (goodIn_sub (fun _ h => List.mem_cons_of_mem _ (List.mem_append_right _ h)) (by decide +kernel))
set_option maxRecDepth 20000 in
theorem gL_act_X4_setRain : GoodIn wsL_act (wsV RL 57 RX4 yX4_setRain wsX4_setRain) := goodIn_app (goodIn_of _ (by decide +kernel)) ggL_act_X4_setRain
set_option maxRecDepth 20000 in
theorem ggL_act_X4_setLimit : GoodIn wsL_act wsX4_setLimit := goodIn_ca (goodIn_r _ [100, 45, 101, 57, 58, 41, 59, 60, 61, 54, 55, 56, 312, 313, 314, 315, 316, 317, 318, 319, 320, 321, 322, 323, 324, 325] (by decide +kernel) (by decide +kernel)) (goodIn_sub (fun _ h => List.mem_cons_of_mem _ (List.mem_append_right _ h)) (by decide +kernel))
set_option maxRecDepth 20000 in
theorem gL_act_X4_setLimit : GoodIn wsL_act (wsV RL 63 RX4 yX4_setLimit wsX4_setLimit) := goodIn_app (goodIn_of _ (by decide +kernel)) ggL_act_X4_setLimit
set_option maxRecDepth 20000 in
theorem ggL_act_X7_put : GoodIn wsL_act wsX7_put := goodIn_r _ [105, 35, 106, 307, 308, 309, 310, 311] (by decide +kernel) (by decide +kernel)
set_option maxRecDepth 20000 in
theorem gL_act_X7_put : GoodIn wsL_act (wsV RL 77 RX7 yX7_put wsX7_put) := goodIn_app (goodIn_of _ (by decide +kernel)) ggL_act_X7_put
set_option maxRecDepth 20000 in
theorem ggL_act_X4_stack : GoodIn wsL_act wsX4_stack := goodIn_ca (goodIn_ca (goodIn_ca (goodIn_r _ [110, 43, 44, 45, 47, 81, 111, 112, 113, 114, 115, 41, 116, 52, 53, 46, 54, 55, 56, 57, 58, 59, 60, 61, 88, 89, 90, 85, 91, 87, 117, 118, 119, 65, 120, 68, 121, 69, 122, 123, 124, 125, 126, 127, 128, 129, 130, 131, 82, 83, 84, 86, 312, 313, 314, 315, 316, 317, 318, 319, 320, 321, 322, 323, 324, 325, 326, 327, 328, 329, 333, 334, 335, 336, 337] (by decide +kernel) (by decide +kernel)) (goodIn_sub (fun _ h => List.mem_cons_of_mem _ (List.mem_append_left _ (List.mem_append_left _ (List.mem_append_right _ h)))) (by decide +kernel))) (goodIn_sub (fun _ h => List.mem_cons_of_mem _ (List.mem_append_left _ (List.mem_append_right _ h))) (by decide +kernel))) (goodIn_sub (fun _ h => List.mem_cons_of_mem _ (List.mem_append_right _ h)) (by decide +kernel))
set_option maxRecDepth 20000 in
theorem gL_act_X4_stack : GoodIn wsL_act (wsV RL 81 RX4 yX4_stack wsX4_stack) := goodIn_app (goodIn_of _ (by decide +kernel)) ggL_act_X4_stack
set_option maxRecDepth 20000 in
theorem ggL_act_X4_fire : GoodIn wsL_act wsX4_fire := goodIn_ca (goodIn_ca (goodIn_ca (goodIn_r _ [135, 43, 44, 45, 47, 112, 136, 111, 113, 114, 115, 41, 116, 52, 53, 46, 54, 55, 56, 57, 58, 59, 60, 61, 137, 138, 139, 65, 140, 69, 141, 142, 143, 144, 131, 82, 83, 84, 85, 86, 87, 312, 313, 314, 315, 316, 317, 318, 319, 320, 321, 322, 323, 324, 325, 326, 327, 328, 329, 333] (by decide +kernel) (by decide +kernel)) (goodIn_sub (fun _ h => List.mem_cons_of_mem _ (List.mem_append_left _ (List.mem_append_left _ (List.mem_append_right _ h)))) (by decide +kernel))) (goodIn_sub (fun _ h => List.mem_cons_of_mem _ (List.mem_append_left _ (List.mem_append_right _ h))) (by decide +kernel))) (goodIn_sub (fun _ h => List.mem_cons_of_mem _ (List.mem_append_right _ h)) (by decide +kernel))
set_option maxRecDepth 20000 in
theorem gL_act_X4_fire : GoodIn wsL_act (wsV RL 87 RX4 yX4_fire wsX4_fire) := goodIn_app (goodIn_of _ (by decide +kernel)) ggL_act_X4_fire
set_option maxRecDepth 20000 in
theorem ggL_act_X7_on : GoodIn wsL_act wsX7_on := goodIn_r _ [148, 106, 149, 150, 151, 4, 152, 37, 307, 308, 309, 310, 311] (by decide +kernel) (by decide +kernel)
set_option maxRecDepth 20000 in
theorem gL_act_X7_on : GoodIn wsL_act (wsV RL 90 RX7 yX7_on wsX7_on) := goodIn_app (goodIn_of _ (by decide +kernel)) ggL_act_X7_on
set_option maxRecDepth 20000 in
theorem ggL_act_X4_scour : GoodIn wsL_act wsX4_scour := goodIn_ca (goodIn_r _ [156, 45, 47, 113, 114, 115, 41, 116, 52, 53, 46, 54, 55, 56, 157, 158, 159, 65, 160, 69, 161, 16, 17, 18, 162, 163, 164, 165, 68, 166, 167, 168, 169, 170, 171, 172, 141, 142, 143, 144, 131, 127, 128, 129, 130, 312, 313, 314, 315, 316, 317, 318, 319, 320, 321, 322, 323, 324, 325, 326, 327, 328, 329, 334, 335, 336, 337] (by decide +kernel) (by decide +kernel)) (goodIn_sub (fun _ h => List.mem_cons_of_mem _ (List.mem_append_left _ (List.mem_append_right _ h))) (by decide +kernel))
set_option maxRecDepth 20000 in
theorem gL_act_X4_scour : GoodIn wsL_act (wsV RL 93 RX4 yX4_scour wsX4_scour) := goodIn_app (goodIn_of _ (by decide +kernel)) ggL_act_X4_scour
set_option maxRecDepth 20000 in
theorem ggL_act_X4_inspect : GoodIn wsL_act wsX4_inspect := goodIn_ca (goodIn_r _ [176, 45, 47, 101, 177, 111, 113, 114, 115, 41, 116, 52, 53, 46, 54, 55, 56, 178, 179, 180, 65, 181, 69, 141, 142, 143, 144, 131, 127, 128, 129, 130, 82, 83, 84, 85, 86, 87, 312, 313, 314, 315, 316, 317, 318, 319, 320, 321, 322, 323, 324, 325, 326, 327, 328, 329, 333] (by decide +kernel) (by decide +kernel)) (goodIn_sub (fun _ h => List.mem_cons_of_mem _ (List.mem_append_left _ (List.mem_append_right _ h))) (by decide +kernel))
set_option maxRecDepth 20000 in
theorem gL_act_X4_inspect : GoodIn wsL_act (wsV RL 99 RX4 yX4_inspect wsX4_inspect) := goodIn_app (goodIn_of _ (by decide +kernel)) ggL_act_X4_inspect
set_option maxRecDepth 20000 in
theorem ggL_act_X4_shift : GoodIn wsL_act wsX4_shift := goodIn_ca (goodIn_ca (goodIn_r _ [185, 60, 61, 45, 47, 111, 112, 186, 16, 17, 18, 113, 114, 115, 41, 116, 52, 53, 46, 54, 55, 56, 117, 118, 119, 65, 120, 68, 121, 69, 137, 138, 139, 140, 141, 142, 143, 144, 131, 122, 123, 124, 125, 126, 127, 128, 129, 130, 312, 313, 314, 315, 316, 317, 318, 319, 320, 321, 322, 323, 324, 325, 326, 327, 328, 329, 334, 335, 336, 337] (by decide +kernel) (by decide +kernel)) (goodIn_sub (fun _ h => List.mem_cons_of_mem _ (List.mem_append_right _ h)) (by decide +kernel))) (goodIn_sub (fun _ h => List.mem_cons_of_mem _ (List.mem_append_left _ (List.mem_append_right _ h))) (by decide +kernel))
set_option maxRecDepth 20000 in
theorem gL_act_X4_shift : GoodIn wsL_act (wsV RL 102 RX4 yX4_shift wsX4_shift) := goodIn_app (goodIn_of _ (by decide +kernel)) ggL_act_X4_shift
set_option maxRecDepth 20000 in
theorem ggL_act_X4_gather : GoodIn wsL_act wsX4_gather := goodIn_r _ [190, 45, 191, 81, 192, 193, 194, 85, 195, 87, 88, 89, 90, 91, 82, 83, 84, 86, 312, 313, 314, 315, 316, 317, 318, 319, 320, 321, 322, 323, 324, 325, 333] (by decide +kernel) (by decide +kernel)
set_option maxRecDepth 20000 in
theorem gL_act_X4_gather : GoodIn wsL_act (wsV RL 108 RX4 yX4_gather wsX4_gather) := goodIn_app (goodIn_of _ (by decide +kernel)) ggL_act_X4_gather
set_option maxRecDepth 20000 in
theorem ggL_act_X4_chase : GoodIn wsL_act wsX4_chase := goodIn_ca (goodIn_r _ [199, 45, 75, 200, 201, 202, 203, 41, 204, 52, 53, 74, 54, 55, 56, 312, 313, 314, 315, 316, 317, 318, 319, 320, 321, 322, 323, 324, 325, 330, 331, 332] (by decide +kernel) (by decide +kernel)) (goodIn_sub (fun _ h => List.mem_cons_of_mem _ (List.mem_append_left _ (List.mem_append_right _ h))) (by decide +kernel))
set_option maxRecDepth 20000 in
theorem gL_act_X4_chase : GoodIn wsL_act (wsV RL 112 RX4 yX4_chase wsX4_chase) := goodIn_app (goodIn_of _ (by decide +kernel)) ggL_act_X4_chase
set_option maxRecDepth 20000 in
theorem ggL_act_X5_counted : GoodIn wsL_act wsX5_counted := goodIn_r _ [209, 9, 210, 211, 212, 213, 214, 215, 216, 217, 218, 219, 220, 221, 222, 4, 223, 106, 35, 298, 299, 300, 301, 302, 303, 304, 305, 306, 307, 308, 309, 310, 311] (by decide +kernel) (by decide +kernel)
set_option maxRecDepth 20000 in
theorem gL_act_X5_counted : GoodIn wsL_act (wsV RL 115 RX5 yX5_counted wsX5_counted) := goodIn_app (goodIn_of _ (by decide +kernel)) ggL_act_X5_counted
set_option maxRecDepth 20000 in
theorem ggL_act_X5_behind : GoodIn wsL_act wsX5_behind := goodIn_r _ [227, 228, 229, 230, 208, 231, 214, 215, 232, 233, 219, 218, 211, 234, 217, 235, 146, 147, 4, 148, 106, 149, 150, 151, 152, 37, 236, 237, 238, 239, 35, 298, 299, 300, 301, 302, 303, 304, 305, 306, 307, 308, 309, 310, 311] (by decide +kernel) (by decide +kernel)
set_option maxRecDepth 20000 in
theorem gL_act_X5_behind : GoodIn wsL_act (wsV RL 118 RX5 yX5_behind wsX5_behind) := goodIn_app (goodIn_of _ (by decide +kernel)) ggL_act_X5_behind
set_option maxRecDepth 20000 in
theorem ggL_act_X4_pass : GoodIn wsL_act wsX4_pass := goodIn_ca (goodIn_r _ [243, 45, 57, 58, 41, 59, 60, 61, 54, 55, 56, 244, 245, 246, 247, 248, 249, 250, 251, 252, 253, 254, 255, 256, 257, 258, 259, 260, 261, 65, 262, 69, 161, 16, 17, 18, 162, 163, 164, 165, 68, 166, 167, 168, 169, 170, 171, 172, 141, 142, 143, 144, 131, 127, 128, 129, 130, 263, 264, 265, 266, 267, 268, 269, 270, 271, 272, 273, 274, 275, 276, 277, 278, 279, 280, 281, 282, 283, 284, 285, 286, 287, 288, 289, 290, 291, 292, 293, 294, 295, 296, 138, 139, 140, 297, 83, 84, 85, 86, 87, 312, 313, 314, 315, 316, 317, 318, 319, 320, 321, 322, 323, 324, 325, 326, 327, 328, 329, 334, 335, 336, 337, 330, 331, 332, 333] (by decide +kernel) (by decide +kernel)) (goodIn_sub (fun _ h => List.mem_cons_of_mem _ (List.mem_append_right _ h)) (by decide +kernel))
set_option maxRecDepth 20000 in
theorem gL_act_X4_pass : GoodIn wsL_act (wsV RL 122 RX4 yX4_pass wsX4_pass) := goodIn_app (goodIn_of _ (by decide +kernel)) ggL_act_X4_pass
theorem dL_act_0 : decode cL_act 0 = .ok (.aload_n 1, 1) := by decide +kernel
theorem dL_act_1 : decode cL_act 1 = .ok (.getfield 9, 3) := by decide +kernel
theorem dL_act_4 : decode cL_act 4 = .ok (.arraylength, 1) := by decide +kernel
theorem dL_act_5 : decode cL_act 5 = .ok (.istore_n 3, 1) := by decide +kernel
theorem dL_act_6 : decode cL_act 6 = .ok (.iload_n 3, 1) := by decide +kernel
theorem dL_act_7 : decode cL_act 7 = .ok (.ifCond .ne 7, 3) := by decide +kernel
theorem dL_act_10 : decode cL_act 10 = .ok (.iconst 0, 1) := by decide +kernel
theorem dL_act_11 : decode cL_act 11 = .ok (.goto 10, 3) := by decide +kernel
theorem dL_act_14 : decode cL_act 14 = .ok (.iload_n 2, 1) := by decide +kernel
theorem dL_act_15 : decode cL_act 15 = .ok (.iconst 1, 1) := by decide +kernel
theorem dL_act_16 : decode cL_act 16 = .ok (.ishr, 1) := by decide +kernel
theorem dL_act_17 : decode cL_act 17 = .ok (.iload_n 3, 1) := by decide +kernel
theorem dL_act_18 : decode cL_act 18 = .ok (.invokestatic 15, 3) := by decide +kernel
theorem dL_act_21 : decode cL_act 21 = .ok (.istore 4, 2) := by decide +kernel
theorem dL_act_23 : decode cL_act 23 = .ok (.iload_n 3, 1) := by decide +kernel
theorem dL_act_24 : decode cL_act 24 = .ok (.ifCond .ne 7, 3) := by decide +kernel
theorem dL_act_27 : decode cL_act 27 = .ok (.aconst_null, 1) := by decide +kernel
theorem dL_act_28 : decode cL_act 28 = .ok (.goto 10, 3) := by decide +kernel
theorem dL_act_31 : decode cL_act 31 = .ok (.aload_n 1, 1) := by decide +kernel
theorem dL_act_32 : decode cL_act 32 = .ok (.getfield 9, 3) := by decide +kernel
theorem dL_act_35 : decode cL_act 35 = .ok (.iload 4, 2) := by decide +kernel
theorem dL_act_37 : decode cL_act 37 = .ok (.aaload, 1) := by decide +kernel
theorem dL_act_38 : decode cL_act 38 = .ok (.astore 5, 2) := by decide +kernel
theorem dL_act_40 : decode cL_act 40 = .ok (.iload_n 2, 1) := by decide +kernel
theorem dL_act_41 : decode cL_act 41 = .ok (.bipush 9, 2) := by decide +kernel
theorem dL_act_43 : decode cL_act 43 = .ok (.ishr, 1) := by decide +kernel
theorem dL_act_44 : decode cL_act 44 = .ok (.bipush 20, 2) := by decide +kernel
theorem dL_act_46 : decode cL_act 46 = .ok (.invokestatic 15, 3) := by decide +kernel
theorem dL_act_49 : decode cL_act 49 = .ok (.tableswitch 1128 0 15 #[79, 184, 303, 303, 360, 396, 435, 435, 435, 435, 546, 660, 764, 871, 997, 1067], 79) := by decide +kernel
theorem dL_act_128 : decode cL_act 128 = .ok (.iload_n 3, 1) := by decide +kernel
theorem dL_act_129 : decode cL_act 129 = .ok (.bipush 6, 2) := by decide +kernel
theorem dL_act_131 : decode cL_act 131 = .ok (.if_icmp .ne 5, 3) := by decide +kernel
theorem dL_act_134 : decode cL_act 134 = .ok (.iconst 1, 1) := by decide +kernel
theorem dL_act_135 : decode cL_act 135 = .ok (.ireturn, 1) := by decide +kernel
theorem dL_act_136 : decode cL_act 136 = .ok (.iload_n 3, 1) := by decide +kernel
theorem dL_act_137 : decode cL_act 137 = .ok (.iconst 1, 1) := by decide +kernel
theorem dL_act_138 : decode cL_act 138 = .ok (.iadd, 1) := by decide +kernel
theorem dL_act_139 : decode cL_act 139 = .ok (.anewarray 21, 3) := by decide +kernel
theorem dL_act_142 : decode cL_act 142 = .ok (.astore 6, 2) := by decide +kernel
theorem dL_act_144 : decode cL_act 144 = .ok (.iconst 0, 1) := by decide +kernel
theorem dL_act_145 : decode cL_act 145 = .ok (.istore 7, 2) := by decide +kernel
theorem dL_act_147 : decode cL_act 147 = .ok (.iload 7, 2) := by decide +kernel
theorem dL_act_149 : decode cL_act 149 = .ok (.iload_n 3, 1) := by decide +kernel
theorem dL_act_150 : decode cL_act 150 = .ok (.if_icmp .ge 21, 3) := by decide +kernel
theorem dL_act_153 : decode cL_act 153 = .ok (.aload 6, 2) := by decide +kernel
theorem dL_act_155 : decode cL_act 155 = .ok (.iload 7, 2) := by decide +kernel
theorem dL_act_157 : decode cL_act 157 = .ok (.aload_n 1, 1) := by decide +kernel
theorem dL_act_158 : decode cL_act 158 = .ok (.getfield 9, 3) := by decide +kernel
theorem dL_act_161 : decode cL_act 161 = .ok (.iload 7, 2) := by decide +kernel
theorem dL_act_163 : decode cL_act 163 = .ok (.aaload, 1) := by decide +kernel
theorem dL_act_164 : decode cL_act 164 = .ok (.aastore, 1) := by decide +kernel
theorem dL_act_165 : decode cL_act 165 = .ok (.iinc 7 1, 3) := by decide +kernel
theorem dL_act_168 : decode cL_act 168 = .ok (.goto (-21), 3) := by decide +kernel
theorem dL_act_171 : decode cL_act 171 = .ok (.aload 6, 2) := by decide +kernel
theorem dL_act_173 : decode cL_act 173 = .ok (.iload_n 3, 1) := by decide +kernel
theorem dL_act_174 : decode cL_act 174 = .ok (.new 21, 3) := by decide +kernel
theorem dL_act_177 : decode cL_act 177 = .ok (.dup, 1) := by decide +kernel
theorem dL_act_178 : decode cL_act 178 = .ok (.iload_n 2, 1) := by decide +kernel
theorem dL_act_179 : decode cL_act 179 = .ok (.iconst 1, 1) := by decide +kernel
theorem dL_act_180 : decode cL_act 180 = .ok (.ishr, 1) := by decide +kernel
theorem dL_act_181 : decode cL_act 181 = .ok (.iconst 3, 1) := by decide +kernel
theorem dL_act_182 : decode cL_act 182 = .ok (.invokestatic 15, 3) := by decide +kernel
theorem dL_act_185 : decode cL_act 185 = .ok (.iconst 1, 1) := by decide +kernel
theorem dL_act_186 : decode cL_act 186 = .ok (.iload_n 2, 1) := by decide +kernel
theorem dL_act_187 : decode cL_act 187 = .ok (.iconst 3, 1) := by decide +kernel
theorem dL_act_188 : decode cL_act 188 = .ok (.ishr, 1) := by decide +kernel
theorem dL_act_189 : decode cL_act 189 = .ok (.bipush 6, 2) := by decide +kernel
theorem dL_act_191 : decode cL_act 191 = .ok (.invokestatic 15, 3) := by decide +kernel
theorem dL_act_194 : decode cL_act 194 = .ok (.iadd, 1) := by decide +kernel
theorem dL_act_195 : decode cL_act 195 = .ok (.invokespecial 23, 3) := by decide +kernel
theorem dL_act_198 : decode cL_act 198 = .ok (.aastore, 1) := by decide +kernel
theorem dL_act_199 : decode cL_act 199 = .ok (.aload_n 1, 1) := by decide +kernel
theorem dL_act_200 : decode cL_act 200 = .ok (.aload 6, 2) := by decide +kernel
theorem dL_act_202 : decode cL_act 202 = .ok (.putfield 9, 3) := by decide +kernel
theorem dL_act_205 : decode cL_act 205 = .ok (.aload_n 0, 1) := by decide +kernel
theorem dL_act_206 : decode cL_act 206 = .ok (.aload 6, 2) := by decide +kernel
theorem dL_act_208 : decode cL_act 208 = .ok (.iload_n 3, 1) := by decide +kernel
theorem dL_act_209 : decode cL_act 209 = .ok (.aaload, 1) := by decide +kernel
theorem dL_act_210 : decode cL_act 210 = .ok (.getfield 26, 3) := by decide +kernel
theorem dL_act_213 : decode cL_act 213 = .ok (.aload 6, 2) := by decide +kernel
theorem dL_act_215 : decode cL_act 215 = .ok (.iload_n 3, 1) := by decide +kernel
theorem dL_act_216 : decode cL_act 216 = .ok (.aaload, 1) := by decide +kernel
theorem dL_act_217 : decode cL_act 217 = .ok (.getfield 30, 3) := by decide +kernel
theorem dL_act_220 : decode cL_act 220 = .ok (.invokevirtual 33, 3) := by decide +kernel
theorem dL_act_223 : decode cL_act 223 = .ok (.iload_n 3, 1) := by decide +kernel
theorem dL_act_224 : decode cL_act 224 = .ok (.if_icmp .ne 7, 3) := by decide +kernel
theorem dL_act_227 : decode cL_act 227 = .ok (.iconst 1, 1) := by decide +kernel
theorem dL_act_228 : decode cL_act 228 = .ok (.goto 4, 3) := by decide +kernel
theorem dL_act_231 : decode cL_act 231 = .ok (.iconst 0, 1) := by decide +kernel
theorem dL_act_232 : decode cL_act 232 = .ok (.ireturn, 1) := by decide +kernel
theorem dL_act_233 : decode cL_act 233 = .ok (.aload_n 1, 1) := by decide +kernel
theorem dL_act_234 : decode cL_act 234 = .ok (.getfield 38, 3) := by decide +kernel
theorem dL_act_237 : decode cL_act 237 = .ok (.arraylength, 1) := by decide +kernel
theorem dL_act_238 : decode cL_act 238 = .ok (.iconst 3, 1) := by decide +kernel
theorem dL_act_239 : decode cL_act 239 = .ok (.if_icmp .ne 5, 3) := by decide +kernel
theorem dL_act_242 : decode cL_act 242 = .ok (.iconst 1, 1) := by decide +kernel
theorem dL_act_243 : decode cL_act 243 = .ok (.ireturn, 1) := by decide +kernel
theorem dL_act_244 : decode cL_act 244 = .ok (.aload_n 1, 1) := by decide +kernel
theorem dL_act_245 : decode cL_act 245 = .ok (.getfield 38, 3) := by decide +kernel
theorem dL_act_248 : decode cL_act 248 = .ok (.arraylength, 1) := by decide +kernel
theorem dL_act_249 : decode cL_act 249 = .ok (.iconst 1, 1) := by decide +kernel
theorem dL_act_250 : decode cL_act 250 = .ok (.iadd, 1) := by decide +kernel
theorem dL_act_251 : decode cL_act 251 = .ok (.anewarray 42, 3) := by decide +kernel
theorem dL_act_254 : decode cL_act 254 = .ok (.astore 7, 2) := by decide +kernel
theorem dL_act_256 : decode cL_act 256 = .ok (.iconst 0, 1) := by decide +kernel
theorem dL_act_257 : decode cL_act 257 = .ok (.istore 8, 2) := by decide +kernel
theorem dL_act_259 : decode cL_act 259 = .ok (.iload 8, 2) := by decide +kernel
theorem dL_act_261 : decode cL_act 261 = .ok (.aload_n 1, 1) := by decide +kernel
theorem dL_act_262 : decode cL_act 262 = .ok (.getfield 38, 3) := by decide +kernel
theorem dL_act_265 : decode cL_act 265 = .ok (.arraylength, 1) := by decide +kernel
theorem dL_act_266 : decode cL_act 266 = .ok (.if_icmp .ge 21, 3) := by decide +kernel
theorem dL_act_269 : decode cL_act 269 = .ok (.aload 7, 2) := by decide +kernel
theorem dL_act_271 : decode cL_act 271 = .ok (.iload 8, 2) := by decide +kernel
theorem dL_act_273 : decode cL_act 273 = .ok (.aload_n 1, 1) := by decide +kernel
theorem dL_act_274 : decode cL_act 274 = .ok (.getfield 38, 3) := by decide +kernel
theorem dL_act_277 : decode cL_act 277 = .ok (.iload 8, 2) := by decide +kernel
theorem dL_act_279 : decode cL_act 279 = .ok (.aaload, 1) := by decide +kernel
theorem dL_act_280 : decode cL_act 280 = .ok (.aastore, 1) := by decide +kernel
theorem dL_act_281 : decode cL_act 281 = .ok (.iinc 8 1, 3) := by decide +kernel
theorem dL_act_284 : decode cL_act 284 = .ok (.goto (-25), 3) := by decide +kernel
theorem dL_act_287 : decode cL_act 287 = .ok (.aload 7, 2) := by decide +kernel
theorem dL_act_289 : decode cL_act 289 = .ok (.aload_n 1, 1) := by decide +kernel
theorem dL_act_290 : decode cL_act 290 = .ok (.getfield 38, 3) := by decide +kernel
theorem dL_act_293 : decode cL_act 293 = .ok (.arraylength, 1) := by decide +kernel
theorem dL_act_294 : decode cL_act 294 = .ok (.iconst 3, 1) := by decide +kernel
theorem dL_act_295 : decode cL_act 295 = .ok (.newarray .int, 2) := by decide +kernel
theorem dL_act_297 : decode cL_act 297 = .ok (.dup, 1) := by decide +kernel
theorem dL_act_298 : decode cL_act 298 = .ok (.iconst 0, 1) := by decide +kernel
theorem dL_act_299 : decode cL_act 299 = .ok (.iconst 1, 1) := by decide +kernel
theorem dL_act_300 : decode cL_act 300 = .ok (.iload_n 2, 1) := by decide +kernel
theorem dL_act_301 : decode cL_act 301 = .ok (.iconst 1, 1) := by decide +kernel
theorem dL_act_302 : decode cL_act 302 = .ok (.ishr, 1) := by decide +kernel
theorem dL_act_303 : decode cL_act 303 = .ok (.iconst 5, 1) := by decide +kernel
theorem dL_act_304 : decode cL_act 304 = .ok (.invokestatic 15, 3) := by decide +kernel
theorem dL_act_307 : decode cL_act 307 = .ok (.iadd, 1) := by decide +kernel
theorem dL_act_308 : decode cL_act 308 = .ok (.iastore, 1) := by decide +kernel
theorem dL_act_309 : decode cL_act 309 = .ok (.dup, 1) := by decide +kernel
theorem dL_act_310 : decode cL_act 310 = .ok (.iconst 1, 1) := by decide +kernel
theorem dL_act_311 : decode cL_act 311 = .ok (.iconst (-1), 1) := by decide +kernel
theorem dL_act_312 : decode cL_act 312 = .ok (.iastore, 1) := by decide +kernel
theorem dL_act_313 : decode cL_act 313 = .ok (.dup, 1) := by decide +kernel
theorem dL_act_314 : decode cL_act 314 = .ok (.iconst 2, 1) := by decide +kernel
theorem dL_act_315 : decode cL_act 315 = .ok (.iconst 0, 1) := by decide +kernel
theorem dL_act_316 : decode cL_act 316 = .ok (.iastore, 1) := by decide +kernel
theorem dL_act_317 : decode cL_act 317 = .ok (.aastore, 1) := by decide +kernel
theorem dL_act_318 : decode cL_act 318 = .ok (.aload_n 1, 1) := by decide +kernel
theorem dL_act_319 : decode cL_act 319 = .ok (.aload 7, 2) := by decide +kernel
theorem dL_act_321 : decode cL_act 321 = .ok (.putfield 38, 3) := by decide +kernel
theorem dL_act_324 : decode cL_act 324 = .ok (.aload_n 0, 1) := by decide +kernel
theorem dL_act_325 : decode cL_act 325 = .ok (.aload 7, 2) := by decide +kernel
theorem dL_act_327 : decode cL_act 327 = .ok (.aload 7, 2) := by decide +kernel
theorem dL_act_329 : decode cL_act 329 = .ok (.arraylength, 1) := by decide +kernel
theorem dL_act_330 : decode cL_act 330 = .ok (.iconst 1, 1) := by decide +kernel
theorem dL_act_331 : decode cL_act 331 = .ok (.isub, 1) := by decide +kernel
theorem dL_act_332 : decode cL_act 332 = .ok (.aaload, 1) := by decide +kernel
theorem dL_act_333 : decode cL_act 333 = .ok (.iconst 0, 1) := by decide +kernel
theorem dL_act_334 : decode cL_act 334 = .ok (.iaload, 1) := by decide +kernel
theorem dL_act_335 : decode cL_act 335 = .ok (.invokevirtual 44, 3) := by decide +kernel
theorem dL_act_338 : decode cL_act 338 = .ok (.aload 7, 2) := by decide +kernel
theorem dL_act_340 : decode cL_act 340 = .ok (.arraylength, 1) := by decide +kernel
theorem dL_act_341 : decode cL_act 341 = .ok (.iconst 1, 1) := by decide +kernel
theorem dL_act_342 : decode cL_act 342 = .ok (.isub, 1) := by decide +kernel
theorem dL_act_343 : decode cL_act 343 = .ok (.if_icmp .ne 7, 3) := by decide +kernel
theorem dL_act_346 : decode cL_act 346 = .ok (.iconst 1, 1) := by decide +kernel
theorem dL_act_347 : decode cL_act 347 = .ok (.goto 4, 3) := by decide +kernel
theorem dL_act_350 : decode cL_act 350 = .ok (.iconst 0, 1) := by decide +kernel
theorem dL_act_351 : decode cL_act 351 = .ok (.ireturn, 1) := by decide +kernel
theorem dL_act_352 : decode cL_act 352 = .ok (.iload_n 2, 1) := by decide +kernel
theorem dL_act_353 : decode cL_act 353 = .ok (.iconst 1, 1) := by decide +kernel
theorem dL_act_354 : decode cL_act 354 = .ok (.ishr, 1) := by decide +kernel
theorem dL_act_355 : decode cL_act 355 = .ok (.iconst 3, 1) := by decide +kernel
theorem dL_act_356 : decode cL_act 356 = .ok (.invokestatic 15, 3) := by decide +kernel
theorem dL_act_359 : decode cL_act 359 = .ok (.istore 8, 2) := by decide +kernel
theorem dL_act_361 : decode cL_act 361 = .ok (.iconst 1, 1) := by decide +kernel
theorem dL_act_362 : decode cL_act 362 = .ok (.iload_n 2, 1) := by decide +kernel
theorem dL_act_363 : decode cL_act 363 = .ok (.iconst 3, 1) := by decide +kernel
theorem dL_act_364 : decode cL_act 364 = .ok (.ishr, 1) := by decide +kernel
theorem dL_act_365 : decode cL_act 365 = .ok (.bipush 99, 2) := by decide +kernel
theorem dL_act_367 : decode cL_act 367 = .ok (.invokestatic 15, 3) := by decide +kernel
theorem dL_act_370 : decode cL_act 370 = .ok (.iadd, 1) := by decide +kernel
theorem dL_act_371 : decode cL_act 371 = .ok (.istore 9, 2) := by decide +kernel
theorem dL_act_373 : decode cL_act 373 = .ok (.aload_n 1, 1) := by decide +kernel
theorem dL_act_374 : decode cL_act 374 = .ok (.getfield 48, 3) := by decide +kernel
theorem dL_act_377 : decode cL_act 377 = .ok (.iload 8, 2) := by decide +kernel
theorem dL_act_379 : decode cL_act 379 = .ok (.dup2, 1) := by decide +kernel
theorem dL_act_380 : decode cL_act 380 = .ok (.iaload, 1) := by decide +kernel
theorem dL_act_381 : decode cL_act 381 = .ok (.iload 9, 2) := by decide +kernel
theorem dL_act_383 : decode cL_act 383 = .ok (.iadd, 1) := by decide +kernel
theorem dL_act_384 : decode cL_act 384 = .ok (.iastore, 1) := by decide +kernel
theorem dL_act_385 : decode cL_act 385 = .ok (.aload_n 0, 1) := by decide +kernel
theorem dL_act_386 : decode cL_act 386 = .ok (.iload 8, 2) := by decide +kernel
theorem dL_act_388 : decode cL_act 388 = .ok (.iload 9, 2) := by decide +kernel
theorem dL_act_390 : decode cL_act 390 = .ok (.invokevirtual 51, 3) := by decide +kernel
theorem dL_act_393 : decode cL_act 393 = .ok (.aload_n 1, 1) := by decide +kernel
theorem dL_act_394 : decode cL_act 394 = .ok (.getfield 48, 3) := by decide +kernel
theorem dL_act_397 : decode cL_act 397 = .ok (.iload 8, 2) := by decide +kernel
theorem dL_act_399 : decode cL_act 399 = .ok (.iaload, 1) := by decide +kernel
theorem dL_act_400 : decode cL_act 400 = .ok (.if_icmp .ne 7, 3) := by decide +kernel
theorem dL_act_403 : decode cL_act 403 = .ok (.iconst 1, 1) := by decide +kernel
theorem dL_act_404 : decode cL_act 404 = .ok (.goto 4, 3) := by decide +kernel
theorem dL_act_407 : decode cL_act 407 = .ok (.iconst 0, 1) := by decide +kernel
theorem dL_act_408 : decode cL_act 408 = .ok (.ireturn, 1) := by decide +kernel
theorem dL_act_409 : decode cL_act 409 = .ok (.aload_n 1, 1) := by decide +kernel
theorem dL_act_410 : decode cL_act 410 = .ok (.getfield 54, 3) := by decide +kernel
theorem dL_act_413 : decode cL_act 413 = .ok (.istore 10, 2) := by decide +kernel
theorem dL_act_415 : decode cL_act 415 = .ok (.aload_n 1, 1) := by decide +kernel
theorem dL_act_416 : decode cL_act 416 = .ok (.iload_n 2, 1) := by decide +kernel
theorem dL_act_417 : decode cL_act 417 = .ok (.iconst 1, 1) := by decide +kernel
theorem dL_act_418 : decode cL_act 418 = .ok (.ishr, 1) := by decide +kernel
theorem dL_act_419 : decode cL_act 419 = .ok (.iconst 4, 1) := by decide +kernel
theorem dL_act_420 : decode cL_act 420 = .ok (.invokestatic 15, 3) := by decide +kernel
theorem dL_act_423 : decode cL_act 423 = .ok (.putfield 54, 3) := by decide +kernel
theorem dL_act_426 : decode cL_act 426 = .ok (.aload_n 0, 1) := by decide +kernel
theorem dL_act_427 : decode cL_act 427 = .ok (.aload_n 1, 1) := by decide +kernel
theorem dL_act_428 : decode cL_act 428 = .ok (.getfield 54, 3) := by decide +kernel
theorem dL_act_431 : decode cL_act 431 = .ok (.invokevirtual 57, 3) := by decide +kernel
theorem dL_act_434 : decode cL_act 434 = .ok (.iload 10, 2) := by decide +kernel
theorem dL_act_436 : decode cL_act 436 = .ok (.if_icmp .ne 7, 3) := by decide +kernel
theorem dL_act_439 : decode cL_act 439 = .ok (.iconst 1, 1) := by decide +kernel
theorem dL_act_440 : decode cL_act 440 = .ok (.goto 4, 3) := by decide +kernel
theorem dL_act_443 : decode cL_act 443 = .ok (.iconst 0, 1) := by decide +kernel
theorem dL_act_444 : decode cL_act 444 = .ok (.ireturn, 1) := by decide +kernel
theorem dL_act_445 : decode cL_act 445 = .ok (.aload_n 1, 1) := by decide +kernel
theorem dL_act_446 : decode cL_act 446 = .ok (.getfield 60, 3) := by decide +kernel
theorem dL_act_449 : decode cL_act 449 = .ok (.istore 11, 2) := by decide +kernel
theorem dL_act_451 : decode cL_act 451 = .ok (.aload_n 1, 1) := by decide +kernel
theorem dL_act_452 : decode cL_act 452 = .ok (.iconst 1, 1) := by decide +kernel
theorem dL_act_453 : decode cL_act 453 = .ok (.iload_n 2, 1) := by decide +kernel
theorem dL_act_454 : decode cL_act 454 = .ok (.iconst 1, 1) := by decide +kernel
theorem dL_act_455 : decode cL_act 455 = .ok (.ishr, 1) := by decide +kernel
theorem dL_act_456 : decode cL_act 456 = .ok (.bipush 9, 2) := by decide +kernel
theorem dL_act_458 : decode cL_act 458 = .ok (.invokestatic 15, 3) := by decide +kernel
theorem dL_act_461 : decode cL_act 461 = .ok (.iadd, 1) := by decide +kernel
theorem dL_act_462 : decode cL_act 462 = .ok (.putfield 60, 3) := by decide +kernel
theorem dL_act_465 : decode cL_act 465 = .ok (.aload_n 0, 1) := by decide +kernel
theorem dL_act_466 : decode cL_act 466 = .ok (.aload_n 1, 1) := by decide +kernel
theorem dL_act_467 : decode cL_act 467 = .ok (.getfield 60, 3) := by decide +kernel
theorem dL_act_470 : decode cL_act 470 = .ok (.invokevirtual 63, 3) := by decide +kernel
theorem dL_act_473 : decode cL_act 473 = .ok (.iload 11, 2) := by decide +kernel
theorem dL_act_475 : decode cL_act 475 = .ok (.if_icmp .ne 7, 3) := by decide +kernel
theorem dL_act_478 : decode cL_act 478 = .ok (.iconst 1, 1) := by decide +kernel
theorem dL_act_479 : decode cL_act 479 = .ok (.goto 4, 3) := by decide +kernel
theorem dL_act_482 : decode cL_act 482 = .ok (.iconst 0, 1) := by decide +kernel
theorem dL_act_483 : decode cL_act 483 = .ok (.ireturn, 1) := by decide +kernel
theorem dL_act_484 : decode cL_act 484 = .ok (.iload_n 3, 1) := by decide +kernel
theorem dL_act_485 : decode cL_act 485 = .ok (.ifCond .ne 5, 3) := by decide +kernel
theorem dL_act_488 : decode cL_act 488 = .ok (.iconst 1, 1) := by decide +kernel
theorem dL_act_489 : decode cL_act 489 = .ok (.ireturn, 1) := by decide +kernel
theorem dL_act_490 : decode cL_act 490 = .ok (.aload_n 1, 1) := by decide +kernel
theorem dL_act_491 : decode cL_act 491 = .ok (.getfield 48, 3) := by decide +kernel
theorem dL_act_494 : decode cL_act 494 = .ok (.aload 5, 2) := by decide +kernel
theorem dL_act_496 : decode cL_act 496 = .ok (.getfield 26, 3) := by decide +kernel
theorem dL_act_499 : decode cL_act 499 = .ok (.iaload, 1) := by decide +kernel
theorem dL_act_500 : decode cL_act 500 = .ok (.aload 5, 2) := by decide +kernel
theorem dL_act_502 : decode cL_act 502 = .ok (.getfield 66, 3) := by decide +kernel
theorem dL_act_505 : decode cL_act 505 = .ok (.arraylength, 1) := by decide +kernel
theorem dL_act_506 : decode cL_act 506 = .ok (.aload 5, 2) := by decide +kernel
theorem dL_act_508 : decode cL_act 508 = .ok (.getfield 69, 3) := by decide +kernel
theorem dL_act_511 : decode cL_act 511 = .ok (.isub, 1) := by decide +kernel
theorem dL_act_512 : decode cL_act 512 = .ok (.invokestatic 72, 3) := by decide +kernel
theorem dL_act_515 : decode cL_act 515 = .ok (.istore 12, 2) := by decide +kernel
theorem dL_act_517 : decode cL_act 517 = .ok (.iload 12, 2) := by decide +kernel
theorem dL_act_519 : decode cL_act 519 = .ok (.ifCond .ne 5, 3) := by decide +kernel
theorem dL_act_522 : decode cL_act 522 = .ok (.iconst 1, 1) := by decide +kernel
theorem dL_act_523 : decode cL_act 523 = .ok (.ireturn, 1) := by decide +kernel
theorem dL_act_524 : decode cL_act 524 = .ok (.iconst 1, 1) := by decide +kernel
theorem dL_act_525 : decode cL_act 525 = .ok (.iload_n 2, 1) := by decide +kernel
theorem dL_act_526 : decode cL_act 526 = .ok (.iconst 3, 1) := by decide +kernel
theorem dL_act_527 : decode cL_act 527 = .ok (.ishr, 1) := by decide +kernel
theorem dL_act_528 : decode cL_act 528 = .ok (.iload 12, 2) := by decide +kernel
theorem dL_act_530 : decode cL_act 530 = .ok (.invokestatic 15, 3) := by decide +kernel
theorem dL_act_533 : decode cL_act 533 = .ok (.iadd, 1) := by decide +kernel
theorem dL_act_534 : decode cL_act 534 = .ok (.istore 13, 2) := by decide +kernel
theorem dL_act_536 : decode cL_act 536 = .ok (.aload_n 1, 1) := by decide +kernel
theorem dL_act_537 : decode cL_act 537 = .ok (.getfield 48, 3) := by decide +kernel
theorem dL_act_540 : decode cL_act 540 = .ok (.aload 5, 2) := by decide +kernel
theorem dL_act_542 : decode cL_act 542 = .ok (.getfield 26, 3) := by decide +kernel
theorem dL_act_545 : decode cL_act 545 = .ok (.dup2, 1) := by decide +kernel
theorem dL_act_546 : decode cL_act 546 = .ok (.iaload, 1) := by decide +kernel
theorem dL_act_547 : decode cL_act 547 = .ok (.iload 13, 2) := by decide +kernel
theorem dL_act_549 : decode cL_act 549 = .ok (.isub, 1) := by decide +kernel
theorem dL_act_550 : decode cL_act 550 = .ok (.iastore, 1) := by decide +kernel
theorem dL_act_551 : decode cL_act 551 = .ok (.iconst 0, 1) := by decide +kernel
theorem dL_act_552 : decode cL_act 552 = .ok (.istore 14, 2) := by decide +kernel
theorem dL_act_554 : decode cL_act 554 = .ok (.iload 14, 2) := by decide +kernel
theorem dL_act_556 : decode cL_act 556 = .ok (.iload 13, 2) := by decide +kernel
theorem dL_act_558 : decode cL_act 558 = .ok (.if_icmp .ge 15, 3) := by decide +kernel
theorem dL_act_561 : decode cL_act 561 = .ok (.aload 5, 2) := by decide +kernel
theorem dL_act_563 : decode cL_act 563 = .ok (.iconst 0, 1) := by decide +kernel
theorem dL_act_564 : decode cL_act 564 = .ok (.invokevirtual 77, 3) := by decide +kernel
theorem dL_act_567 : decode cL_act 567 = .ok (.iinc 14 1, 3) := by decide +kernel
theorem dL_act_570 : decode cL_act 570 = .ok (.goto (-16), 3) := by decide +kernel
theorem dL_act_573 : decode cL_act 573 = .ok (.aload_n 0, 1) := by decide +kernel
theorem dL_act_574 : decode cL_act 574 = .ok (.iload 4, 2) := by decide +kernel
theorem dL_act_576 : decode cL_act 576 = .ok (.iload 13, 2) := by decide +kernel
theorem dL_act_578 : decode cL_act 578 = .ok (.invokevirtual 81, 3) := by decide +kernel
theorem dL_act_581 : decode cL_act 581 = .ok (.aload 5, 2) := by decide +kernel
theorem dL_act_583 : decode cL_act 583 = .ok (.getfield 69, 3) := by decide +kernel
theorem dL_act_586 : decode cL_act 586 = .ok (.if_icmp .ne 7, 3) := by decide +kernel
theorem dL_act_589 : decode cL_act 589 = .ok (.iconst 1, 1) := by decide +kernel
theorem dL_act_590 : decode cL_act 590 = .ok (.goto 4, 3) := by decide +kernel
theorem dL_act_593 : decode cL_act 593 = .ok (.iconst 0, 1) := by decide +kernel
theorem dL_act_594 : decode cL_act 594 = .ok (.ireturn, 1) := by decide +kernel
theorem dL_act_595 : decode cL_act 595 = .ok (.iload_n 3, 1) := by decide +kernel
theorem dL_act_596 : decode cL_act 596 = .ok (.ifCond .eq 11, 3) := by decide +kernel
theorem dL_act_599 : decode cL_act 599 = .ok (.aload 5, 2) := by decide +kernel
theorem dL_act_601 : decode cL_act 601 = .ok (.getfield 69, 3) := by decide +kernel
theorem dL_act_604 : decode cL_act 604 = .ok (.ifCond .ne 5, 3) := by decide +kernel
theorem dL_act_607 : decode cL_act 607 = .ok (.iconst 1, 1) := by decide +kernel
theorem dL_act_608 : decode cL_act 608 = .ok (.ireturn, 1) := by decide +kernel
theorem dL_act_609 : decode cL_act 609 = .ok (.iconst 1, 1) := by decide +kernel
theorem dL_act_610 : decode cL_act 610 = .ok (.iload_n 2, 1) := by decide +kernel
theorem dL_act_611 : decode cL_act 611 = .ok (.iconst 3, 1) := by decide +kernel
theorem dL_act_612 : decode cL_act 612 = .ok (.ishr, 1) := by decide +kernel
theorem dL_act_613 : decode cL_act 613 = .ok (.bipush 9, 2) := by decide +kernel
theorem dL_act_615 : decode cL_act 615 = .ok (.aload 5, 2) := by decide +kernel
theorem dL_act_617 : decode cL_act 617 = .ok (.getfield 69, 3) := by decide +kernel
theorem dL_act_620 : decode cL_act 620 = .ok (.invokestatic 72, 3) := by decide +kernel
theorem dL_act_623 : decode cL_act 623 = .ok (.invokestatic 15, 3) := by decide +kernel
theorem dL_act_626 : decode cL_act 626 = .ok (.iadd, 1) := by decide +kernel
theorem dL_act_627 : decode cL_act 627 = .ok (.istore 14, 2) := by decide +kernel
theorem dL_act_629 : decode cL_act 629 = .ok (.iconst 0, 1) := by decide +kernel
theorem dL_act_630 : decode cL_act 630 = .ok (.istore 15, 2) := by decide +kernel
theorem dL_act_632 : decode cL_act 632 = .ok (.iconst 0, 1) := by decide +kernel
theorem dL_act_633 : decode cL_act 633 = .ok (.istore 16, 2) := by decide +kernel
theorem dL_act_635 : decode cL_act 635 = .ok (.iload 16, 2) := by decide +kernel
theorem dL_act_637 : decode cL_act 637 = .ok (.iload 14, 2) := by decide +kernel
theorem dL_act_639 : decode cL_act 639 = .ok (.if_icmp .ge 36, 3) := by decide +kernel
theorem dL_act_642 : decode cL_act 642 = .ok (.aload 5, 2) := by decide +kernel
theorem dL_act_644 : decode cL_act 644 = .ok (.dup, 1) := by decide +kernel
theorem dL_act_645 : decode cL_act 645 = .ok (.getfield 69, 3) := by decide +kernel
theorem dL_act_648 : decode cL_act 648 = .ok (.iconst 1, 1) := by decide +kernel
theorem dL_act_649 : decode cL_act 649 = .ok (.isub, 1) := by decide +kernel
theorem dL_act_650 : decode cL_act 650 = .ok (.putfield 69, 3) := by decide +kernel
theorem dL_act_653 : decode cL_act 653 = .ok (.iload 15, 2) := by decide +kernel
theorem dL_act_655 : decode cL_act 655 = .ok (.aload 5, 2) := by decide +kernel
theorem dL_act_657 : decode cL_act 657 = .ok (.getfield 66, 3) := by decide +kernel
theorem dL_act_660 : decode cL_act 660 = .ok (.aload 5, 2) := by decide +kernel
theorem dL_act_662 : decode cL_act 662 = .ok (.getfield 69, 3) := by decide +kernel
theorem dL_act_665 : decode cL_act 665 = .ok (.iaload, 1) := by decide +kernel
theorem dL_act_666 : decode cL_act 666 = .ok (.iadd, 1) := by decide +kernel
theorem dL_act_667 : decode cL_act 667 = .ok (.istore 15, 2) := by decide +kernel
theorem dL_act_669 : decode cL_act 669 = .ok (.iinc 16 1, 3) := by decide +kernel
theorem dL_act_672 : decode cL_act 672 = .ok (.goto (-37), 3) := by decide +kernel
theorem dL_act_675 : decode cL_act 675 = .ok (.aload_n 1, 1) := by decide +kernel
theorem dL_act_676 : decode cL_act 676 = .ok (.getfield 84, 3) := by decide +kernel
theorem dL_act_679 : decode cL_act 679 = .ok (.aload 5, 2) := by decide +kernel
theorem dL_act_681 : decode cL_act 681 = .ok (.getfield 26, 3) := by decide +kernel
theorem dL_act_684 : decode cL_act 684 = .ok (.dup2, 1) := by decide +kernel
theorem dL_act_685 : decode cL_act 685 = .ok (.iaload, 1) := by decide +kernel
theorem dL_act_686 : decode cL_act 686 = .ok (.iload 14, 2) := by decide +kernel
theorem dL_act_688 : decode cL_act 688 = .ok (.iadd, 1) := by decide +kernel
theorem dL_act_689 : decode cL_act 689 = .ok (.iastore, 1) := by decide +kernel
theorem dL_act_690 : decode cL_act 690 = .ok (.aload_n 0, 1) := by decide +kernel
theorem dL_act_691 : decode cL_act 691 = .ok (.iload 4, 2) := by decide +kernel
theorem dL_act_693 : decode cL_act 693 = .ok (.iload 14, 2) := by decide +kernel
theorem dL_act_695 : decode cL_act 695 = .ok (.invokevirtual 87, 3) := by decide +kernel
theorem dL_act_698 : decode cL_act 698 = .ok (.iload 15, 2) := by decide +kernel
theorem dL_act_700 : decode cL_act 700 = .ok (.if_icmp .ne 7, 3) := by decide +kernel
theorem dL_act_703 : decode cL_act 703 = .ok (.iconst 1, 1) := by decide +kernel
theorem dL_act_704 : decode cL_act 704 = .ok (.goto 4, 3) := by decide +kernel
theorem dL_act_707 : decode cL_act 707 = .ok (.iconst 0, 1) := by decide +kernel
theorem dL_act_708 : decode cL_act 708 = .ok (.ireturn, 1) := by decide +kernel
theorem dL_act_709 : decode cL_act 709 = .ok (.iload_n 3, 1) := by decide +kernel
theorem dL_act_710 : decode cL_act 710 = .ok (.ifCond .ne 5, 3) := by decide +kernel
theorem dL_act_713 : decode cL_act 713 = .ok (.iconst 1, 1) := by decide +kernel
theorem dL_act_714 : decode cL_act 714 = .ok (.ireturn, 1) := by decide +kernel
theorem dL_act_715 : decode cL_act 715 = .ok (.iconst 0, 1) := by decide +kernel
theorem dL_act_716 : decode cL_act 716 = .ok (.istore 16, 2) := by decide +kernel
theorem dL_act_718 : decode cL_act 718 = .ok (.iconst 0, 1) := by decide +kernel
theorem dL_act_719 : decode cL_act 719 = .ok (.istore 17, 2) := by decide +kernel
theorem dL_act_721 : decode cL_act 721 = .ok (.iload 17, 2) := by decide +kernel
theorem dL_act_723 : decode cL_act 723 = .ok (.aload 5, 2) := by decide +kernel
theorem dL_act_725 : decode cL_act 725 = .ok (.getfield 69, 3) := by decide +kernel
theorem dL_act_728 : decode cL_act 728 = .ok (.if_icmp .ge 68, 3) := by decide +kernel
theorem dL_act_731 : decode cL_act 731 = .ok (.aload 5, 2) := by decide +kernel
theorem dL_act_733 : decode cL_act 733 = .ok (.iload 17, 2) := by decide +kernel
theorem dL_act_735 : decode cL_act 735 = .ok (.invokevirtual 90, 3) := by decide +kernel
theorem dL_act_738 : decode cL_act 738 = .ok (.ifCond .le 6, 3) := by decide +kernel
theorem dL_act_741 : decode cL_act 741 = .ok (.goto 49, 3) := by decide +kernel
theorem dL_act_744 : decode cL_act 744 = .ok (.aload 5, 2) := by decide +kernel
theorem dL_act_746 : decode cL_act 746 = .ok (.getfield 66, 3) := by decide +kernel
theorem dL_act_749 : decode cL_act 749 = .ok (.iload 17, 2) := by decide +kernel
theorem dL_act_751 : decode cL_act 751 = .ok (.iaload, 1) := by decide +kernel
theorem dL_act_752 : decode cL_act 752 = .ok (.iconst 3, 1) := by decide +kernel
theorem dL_act_753 : decode cL_act 753 = .ok (.if_icmp .ge 14, 3) := by decide +kernel
theorem dL_act_756 : decode cL_act 756 = .ok (.aload 5, 2) := by decide +kernel
theorem dL_act_758 : decode cL_act 758 = .ok (.getfield 66, 3) := by decide +kernel
theorem dL_act_761 : decode cL_act 761 = .ok (.iload 17, 2) := by decide +kernel
theorem dL_act_763 : decode cL_act 763 = .ok (.iaload, 1) := by decide +kernel
theorem dL_act_764 : decode cL_act 764 = .ok (.goto 4, 3) := by decide +kernel
theorem dL_act_767 : decode cL_act 767 = .ok (.iconst 3, 1) := by decide +kernel
theorem dL_act_768 : decode cL_act 768 = .ok (.istore 18, 2) := by decide +kernel
theorem dL_act_770 : decode cL_act 770 = .ok (.aload 5, 2) := by decide +kernel
theorem dL_act_772 : decode cL_act 772 = .ok (.getfield 66, 3) := by decide +kernel
theorem dL_act_775 : decode cL_act 775 = .ok (.iload 17, 2) := by decide +kernel
theorem dL_act_777 : decode cL_act 777 = .ok (.dup2, 1) := by decide +kernel
theorem dL_act_778 : decode cL_act 778 = .ok (.iaload, 1) := by decide +kernel
theorem dL_act_779 : decode cL_act 779 = .ok (.iload 18, 2) := by decide +kernel
theorem dL_act_781 : decode cL_act 781 = .ok (.isub, 1) := by decide +kernel
theorem dL_act_782 : decode cL_act 782 = .ok (.iastore, 1) := by decide +kernel
theorem dL_act_783 : decode cL_act 783 = .ok (.iload 16, 2) := by decide +kernel
theorem dL_act_785 : decode cL_act 785 = .ok (.iload 18, 2) := by decide +kernel
theorem dL_act_787 : decode cL_act 787 = .ok (.iadd, 1) := by decide +kernel
theorem dL_act_788 : decode cL_act 788 = .ok (.istore 16, 2) := by decide +kernel
theorem dL_act_790 : decode cL_act 790 = .ok (.iinc 17 1, 3) := by decide +kernel
theorem dL_act_793 : decode cL_act 793 = .ok (.goto (-72), 3) := by decide +kernel
theorem dL_act_796 : decode cL_act 796 = .ok (.aload_n 0, 1) := by decide +kernel
theorem dL_act_797 : decode cL_act 797 = .ok (.iload 4, 2) := by decide +kernel
theorem dL_act_799 : decode cL_act 799 = .ok (.invokevirtual 93, 3) := by decide +kernel
theorem dL_act_802 : decode cL_act 802 = .ok (.iload 16, 2) := by decide +kernel
theorem dL_act_804 : decode cL_act 804 = .ok (.if_icmp .ne 7, 3) := by decide +kernel
theorem dL_act_807 : decode cL_act 807 = .ok (.iconst 1, 1) := by decide +kernel
theorem dL_act_808 : decode cL_act 808 = .ok (.goto 4, 3) := by decide +kernel
theorem dL_act_811 : decode cL_act 811 = .ok (.iconst 0, 1) := by decide +kernel
theorem dL_act_812 : decode cL_act 812 = .ok (.ireturn, 1) := by decide +kernel
theorem dL_act_813 : decode cL_act 813 = .ok (.iload_n 3, 1) := by decide +kernel
theorem dL_act_814 : decode cL_act 814 = .ok (.ifCond .ne 5, 3) := by decide +kernel
theorem dL_act_817 : decode cL_act 817 = .ok (.iconst 1, 1) := by decide +kernel
theorem dL_act_818 : decode cL_act 818 = .ok (.ireturn, 1) := by decide +kernel
theorem dL_act_819 : decode cL_act 819 = .ok (.aload 5, 2) := by decide +kernel
theorem dL_act_821 : decode cL_act 821 = .ok (.getfield 69, 3) := by decide +kernel
theorem dL_act_824 : decode cL_act 824 = .ok (.istore 17, 2) := by decide +kernel
theorem dL_act_826 : decode cL_act 826 = .ok (.aload 5, 2) := by decide +kernel
theorem dL_act_828 : decode cL_act 828 = .ok (.iconst 0, 1) := by decide +kernel
theorem dL_act_829 : decode cL_act 829 = .ok (.putfield 69, 3) := by decide +kernel
theorem dL_act_832 : decode cL_act 832 = .ok (.iconst 0, 1) := by decide +kernel
theorem dL_act_833 : decode cL_act 833 = .ok (.istore 18, 2) := by decide +kernel
theorem dL_act_835 : decode cL_act 835 = .ok (.iload 18, 2) := by decide +kernel
theorem dL_act_837 : decode cL_act 837 = .ok (.iload 17, 2) := by decide +kernel
theorem dL_act_839 : decode cL_act 839 = .ok (.if_icmp .ge 37, 3) := by decide +kernel
theorem dL_act_842 : decode cL_act 842 = .ok (.aload 5, 2) := by decide +kernel
theorem dL_act_844 : decode cL_act 844 = .ok (.getfield 66, 3) := by decide +kernel
theorem dL_act_847 : decode cL_act 847 = .ok (.iload 18, 2) := by decide +kernel
theorem dL_act_849 : decode cL_act 849 = .ok (.iaload, 1) := by decide +kernel
theorem dL_act_850 : decode cL_act 850 = .ok (.aload_n 1, 1) := by decide +kernel
theorem dL_act_851 : decode cL_act 851 = .ok (.getfield 60, 3) := by decide +kernel
theorem dL_act_854 : decode cL_act 854 = .ok (.if_icmp .ge 16, 3) := by decide +kernel
theorem dL_act_857 : decode cL_act 857 = .ok (.aload 5, 2) := by decide +kernel
theorem dL_act_859 : decode cL_act 859 = .ok (.aload 5, 2) := by decide +kernel
theorem dL_act_861 : decode cL_act 861 = .ok (.getfield 66, 3) := by decide +kernel
theorem dL_act_864 : decode cL_act 864 = .ok (.iload 18, 2) := by decide +kernel
theorem dL_act_866 : decode cL_act 866 = .ok (.iaload, 1) := by decide +kernel
theorem dL_act_867 : decode cL_act 867 = .ok (.invokevirtual 77, 3) := by decide +kernel
theorem dL_act_870 : decode cL_act 870 = .ok (.iinc 18 1, 3) := by decide +kernel
theorem dL_act_873 : decode cL_act 873 = .ok (.goto (-38), 3) := by decide +kernel
theorem dL_act_876 : decode cL_act 876 = .ok (.aload_n 1, 1) := by decide +kernel
theorem dL_act_877 : decode cL_act 877 = .ok (.getfield 96, 3) := by decide +kernel
theorem dL_act_880 : decode cL_act 880 = .ok (.aload 5, 2) := by decide +kernel
theorem dL_act_882 : decode cL_act 882 = .ok (.getfield 26, 3) := by decide +kernel
theorem dL_act_885 : decode cL_act 885 = .ok (.dup2, 1) := by decide +kernel
theorem dL_act_886 : decode cL_act 886 = .ok (.iaload, 1) := by decide +kernel
theorem dL_act_887 : decode cL_act 887 = .ok (.iload 17, 2) := by decide +kernel
theorem dL_act_889 : decode cL_act 889 = .ok (.aload 5, 2) := by decide +kernel
theorem dL_act_891 : decode cL_act 891 = .ok (.getfield 69, 3) := by decide +kernel
theorem dL_act_894 : decode cL_act 894 = .ok (.isub, 1) := by decide +kernel
theorem dL_act_895 : decode cL_act 895 = .ok (.iadd, 1) := by decide +kernel
theorem dL_act_896 : decode cL_act 896 = .ok (.iastore, 1) := by decide +kernel
theorem dL_act_897 : decode cL_act 897 = .ok (.aload_n 0, 1) := by decide +kernel
theorem dL_act_898 : decode cL_act 898 = .ok (.iload 4, 2) := by decide +kernel
theorem dL_act_900 : decode cL_act 900 = .ok (.invokevirtual 99, 3) := by decide +kernel
theorem dL_act_903 : decode cL_act 903 = .ok (.iload 17, 2) := by decide +kernel
theorem dL_act_905 : decode cL_act 905 = .ok (.aload 5, 2) := by decide +kernel
theorem dL_act_907 : decode cL_act 907 = .ok (.getfield 69, 3) := by decide +kernel
theorem dL_act_910 : decode cL_act 910 = .ok (.isub, 1) := by decide +kernel
theorem dL_act_911 : decode cL_act 911 = .ok (.if_icmp .ne 7, 3) := by decide +kernel
theorem dL_act_914 : decode cL_act 914 = .ok (.iconst 1, 1) := by decide +kernel
theorem dL_act_915 : decode cL_act 915 = .ok (.goto 4, 3) := by decide +kernel
theorem dL_act_918 : decode cL_act 918 = .ok (.iconst 0, 1) := by decide +kernel
theorem dL_act_919 : decode cL_act 919 = .ok (.ireturn, 1) := by decide +kernel
theorem dL_act_920 : decode cL_act 920 = .ok (.iload_n 3, 1) := by decide +kernel
theorem dL_act_921 : decode cL_act 921 = .ok (.iconst 2, 1) := by decide +kernel
theorem dL_act_922 : decode cL_act 922 = .ok (.if_icmp .ge 5, 3) := by decide +kernel
theorem dL_act_925 : decode cL_act 925 = .ok (.iconst 1, 1) := by decide +kernel
theorem dL_act_926 : decode cL_act 926 = .ok (.ireturn, 1) := by decide +kernel
theorem dL_act_927 : decode cL_act 927 = .ok (.iload 4, 2) := by decide +kernel
theorem dL_act_929 : decode cL_act 929 = .ok (.iconst 1, 1) := by decide +kernel
theorem dL_act_930 : decode cL_act 930 = .ok (.iadd, 1) := by decide +kernel
theorem dL_act_931 : decode cL_act 931 = .ok (.iload_n 2, 1) := by decide +kernel
theorem dL_act_932 : decode cL_act 932 = .ok (.iconst 4, 1) := by decide +kernel
theorem dL_act_933 : decode cL_act 933 = .ok (.ishr, 1) := by decide +kernel
theorem dL_act_934 : decode cL_act 934 = .ok (.iload_n 3, 1) := by decide +kernel
theorem dL_act_935 : decode cL_act 935 = .ok (.iconst 1, 1) := by decide +kernel
theorem dL_act_936 : decode cL_act 936 = .ok (.isub, 1) := by decide +kernel
theorem dL_act_937 : decode cL_act 937 = .ok (.invokestatic 15, 3) := by decide +kernel
theorem dL_act_940 : decode cL_act 940 = .ok (.iadd, 1) := by decide +kernel
theorem dL_act_941 : decode cL_act 941 = .ok (.iload_n 3, 1) := by decide +kernel
theorem dL_act_942 : decode cL_act 942 = .ok (.irem, 1) := by decide +kernel
theorem dL_act_943 : decode cL_act 943 = .ok (.istore 18, 2) := by decide +kernel
theorem dL_act_945 : decode cL_act 945 = .ok (.aload_n 1, 1) := by decide +kernel
theorem dL_act_946 : decode cL_act 946 = .ok (.getfield 9, 3) := by decide +kernel
theorem dL_act_949 : decode cL_act 949 = .ok (.iload 18, 2) := by decide +kernel
theorem dL_act_951 : decode cL_act 951 = .ok (.aaload, 1) := by decide +kernel
theorem dL_act_952 : decode cL_act 952 = .ok (.astore 19, 2) := by decide +kernel
theorem dL_act_954 : decode cL_act 954 = .ok (.aload 19, 2) := by decide +kernel
theorem dL_act_956 : decode cL_act 956 = .ok (.getfield 26, 3) := by decide +kernel
theorem dL_act_959 : decode cL_act 959 = .ok (.aload 5, 2) := by decide +kernel
theorem dL_act_961 : decode cL_act 961 = .ok (.getfield 26, 3) := by decide +kernel
theorem dL_act_964 : decode cL_act 964 = .ok (.if_icmp .eq 5, 3) := by decide +kernel
theorem dL_act_967 : decode cL_act 967 = .ok (.iconst 1, 1) := by decide +kernel
theorem dL_act_968 : decode cL_act 968 = .ok (.ireturn, 1) := by decide +kernel
theorem dL_act_969 : decode cL_act 969 = .ok (.iconst 0, 1) := by decide +kernel
theorem dL_act_970 : decode cL_act 970 = .ok (.istore 20, 2) := by decide +kernel
theorem dL_act_972 : decode cL_act 972 = .ok (.aload 5, 2) := by decide +kernel
theorem dL_act_974 : decode cL_act 974 = .ok (.getfield 69, 3) := by decide +kernel
theorem dL_act_977 : decode cL_act 977 = .ok (.ifCond .le 50, 3) := by decide +kernel
theorem dL_act_980 : decode cL_act 980 = .ok (.aload 19, 2) := by decide +kernel
theorem dL_act_982 : decode cL_act 982 = .ok (.getfield 69, 3) := by decide +kernel
theorem dL_act_985 : decode cL_act 985 = .ok (.aload 19, 2) := by decide +kernel
theorem dL_act_987 : decode cL_act 987 = .ok (.getfield 66, 3) := by decide +kernel
theorem dL_act_990 : decode cL_act 990 = .ok (.arraylength, 1) := by decide +kernel
theorem dL_act_991 : decode cL_act 991 = .ok (.if_icmp .ge 36, 3) := by decide +kernel
theorem dL_act_994 : decode cL_act 994 = .ok (.aload 5, 2) := by decide +kernel
theorem dL_act_996 : decode cL_act 996 = .ok (.dup, 1) := by decide +kernel
theorem dL_act_997 : decode cL_act 997 = .ok (.getfield 69, 3) := by decide +kernel
theorem dL_act_1000 : decode cL_act 1000 = .ok (.iconst 1, 1) := by decide +kernel
theorem dL_act_1001 : decode cL_act 1001 = .ok (.isub, 1) := by decide +kernel
theorem dL_act_1002 : decode cL_act 1002 = .ok (.putfield 69, 3) := by decide +kernel
theorem dL_act_1005 : decode cL_act 1005 = .ok (.aload 19, 2) := by decide +kernel
theorem dL_act_1007 : decode cL_act 1007 = .ok (.aload 5, 2) := by decide +kernel
theorem dL_act_1009 : decode cL_act 1009 = .ok (.getfield 66, 3) := by decide +kernel
theorem dL_act_1012 : decode cL_act 1012 = .ok (.aload 5, 2) := by decide +kernel
theorem dL_act_1014 : decode cL_act 1014 = .ok (.getfield 69, 3) := by decide +kernel
theorem dL_act_1017 : decode cL_act 1017 = .ok (.iaload, 1) := by decide +kernel
theorem dL_act_1018 : decode cL_act 1018 = .ok (.invokevirtual 77, 3) := by decide +kernel
theorem dL_act_1021 : decode cL_act 1021 = .ok (.iinc 20 1, 3) := by decide +kernel
theorem dL_act_1024 : decode cL_act 1024 = .ok (.goto (-52), 3) := by decide +kernel
theorem dL_act_1027 : decode cL_act 1027 = .ok (.aload_n 0, 1) := by decide +kernel
theorem dL_act_1028 : decode cL_act 1028 = .ok (.iload 4, 2) := by decide +kernel
theorem dL_act_1030 : decode cL_act 1030 = .ok (.iload 18, 2) := by decide +kernel
theorem dL_act_1032 : decode cL_act 1032 = .ok (.invokevirtual 102, 3) := by decide +kernel
theorem dL_act_1035 : decode cL_act 1035 = .ok (.iload 20, 2) := by decide +kernel
theorem dL_act_1037 : decode cL_act 1037 = .ok (.if_icmp .ne 7, 3) := by decide +kernel
theorem dL_act_1040 : decode cL_act 1040 = .ok (.iconst 1, 1) := by decide +kernel
theorem dL_act_1041 : decode cL_act 1041 = .ok (.goto 4, 3) := by decide +kernel
theorem dL_act_1044 : decode cL_act 1044 = .ok (.iconst 0, 1) := by decide +kernel
theorem dL_act_1045 : decode cL_act 1045 = .ok (.ireturn, 1) := by decide +kernel
theorem dL_act_1046 : decode cL_act 1046 = .ok (.iconst 0, 1) := by decide +kernel
theorem dL_act_1047 : decode cL_act 1047 = .ok (.istore 21, 2) := by decide +kernel
theorem dL_act_1049 : decode cL_act 1049 = .ok (.iconst 0, 1) := by decide +kernel
theorem dL_act_1050 : decode cL_act 1050 = .ok (.istore 22, 2) := by decide +kernel
theorem dL_act_1052 : decode cL_act 1052 = .ok (.iload 22, 2) := by decide +kernel
theorem dL_act_1054 : decode cL_act 1054 = .ok (.iconst 5, 1) := by decide +kernel
theorem dL_act_1055 : decode cL_act 1055 = .ok (.if_icmp .ge 46, 3) := by decide +kernel
theorem dL_act_1058 : decode cL_act 1058 = .ok (.iload 21, 2) := by decide +kernel
theorem dL_act_1060 : decode cL_act 1060 = .ok (.aload_n 1, 1) := by decide +kernel
theorem dL_act_1061 : decode cL_act 1061 = .ok (.getfield 105, 3) := by decide +kernel
theorem dL_act_1064 : decode cL_act 1064 = .ok (.iload 22, 2) := by decide +kernel
theorem dL_act_1066 : decode cL_act 1066 = .ok (.iaload, 1) := by decide +kernel
theorem dL_act_1067 : decode cL_act 1067 = .ok (.iadd, 1) := by decide +kernel
theorem dL_act_1068 : decode cL_act 1068 = .ok (.istore 21, 2) := by decide +kernel
theorem dL_act_1070 : decode cL_act 1070 = .ok (.aload_n 1, 1) := by decide +kernel
theorem dL_act_1071 : decode cL_act 1071 = .ok (.getfield 48, 3) := by decide +kernel
theorem dL_act_1074 : decode cL_act 1074 = .ok (.iload 22, 2) := by decide +kernel
theorem dL_act_1076 : decode cL_act 1076 = .ok (.dup2, 1) := by decide +kernel
theorem dL_act_1077 : decode cL_act 1077 = .ok (.iaload, 1) := by decide +kernel
theorem dL_act_1078 : decode cL_act 1078 = .ok (.aload_n 1, 1) := by decide +kernel
theorem dL_act_1079 : decode cL_act 1079 = .ok (.getfield 105, 3) := by decide +kernel
theorem dL_act_1082 : decode cL_act 1082 = .ok (.iload 22, 2) := by decide +kernel
theorem dL_act_1084 : decode cL_act 1084 = .ok (.iaload, 1) := by decide +kernel
theorem dL_act_1085 : decode cL_act 1085 = .ok (.iadd, 1) := by decide +kernel
theorem dL_act_1086 : decode cL_act 1086 = .ok (.iastore, 1) := by decide +kernel
theorem dL_act_1087 : decode cL_act 1087 = .ok (.aload_n 1, 1) := by decide +kernel
theorem dL_act_1088 : decode cL_act 1088 = .ok (.getfield 105, 3) := by decide +kernel
theorem dL_act_1091 : decode cL_act 1091 = .ok (.iload 22, 2) := by decide +kernel
theorem dL_act_1093 : decode cL_act 1093 = .ok (.iconst 0, 1) := by decide +kernel
theorem dL_act_1094 : decode cL_act 1094 = .ok (.iastore, 1) := by decide +kernel
theorem dL_act_1095 : decode cL_act 1095 = .ok (.iinc 22 1, 3) := by decide +kernel
theorem dL_act_1098 : decode cL_act 1098 = .ok (.goto (-46), 3) := by decide +kernel
theorem dL_act_1101 : decode cL_act 1101 = .ok (.aload_n 0, 1) := by decide +kernel
theorem dL_act_1102 : decode cL_act 1102 = .ok (.invokevirtual 108, 3) := by decide +kernel
theorem dL_act_1105 : decode cL_act 1105 = .ok (.iload 21, 2) := by decide +kernel
theorem dL_act_1107 : decode cL_act 1107 = .ok (.if_icmp .ne 7, 3) := by decide +kernel
theorem dL_act_1110 : decode cL_act 1110 = .ok (.iconst 1, 1) := by decide +kernel
theorem dL_act_1111 : decode cL_act 1111 = .ok (.goto 4, 3) := by decide +kernel
theorem dL_act_1114 : decode cL_act 1114 = .ok (.iconst 0, 1) := by decide +kernel
theorem dL_act_1115 : decode cL_act 1115 = .ok (.ireturn, 1) := by decide +kernel
theorem dL_act_1116 : decode cL_act 1116 = .ok (.aload_n 1, 1) := by decide +kernel
theorem dL_act_1117 : decode cL_act 1117 = .ok (.getfield 38, 3) := by decide +kernel
theorem dL_act_1120 : decode cL_act 1120 = .ok (.arraylength, 1) := by decide +kernel
theorem dL_act_1121 : decode cL_act 1121 = .ok (.ifCond .ne 5, 3) := by decide +kernel
theorem dL_act_1124 : decode cL_act 1124 = .ok (.iconst 1, 1) := by decide +kernel
theorem dL_act_1125 : decode cL_act 1125 = .ok (.ireturn, 1) := by decide +kernel
theorem dL_act_1126 : decode cL_act 1126 = .ok (.iload_n 2, 1) := by decide +kernel
theorem dL_act_1127 : decode cL_act 1127 = .ok (.iconst 1, 1) := by decide +kernel
theorem dL_act_1128 : decode cL_act 1128 = .ok (.ishr, 1) := by decide +kernel
theorem dL_act_1129 : decode cL_act 1129 = .ok (.aload_n 1, 1) := by decide +kernel
theorem dL_act_1130 : decode cL_act 1130 = .ok (.getfield 38, 3) := by decide +kernel
theorem dL_act_1133 : decode cL_act 1133 = .ok (.arraylength, 1) := by decide +kernel
theorem dL_act_1134 : decode cL_act 1134 = .ok (.invokestatic 15, 3) := by decide +kernel
theorem dL_act_1137 : decode cL_act 1137 = .ok (.istore 22, 2) := by decide +kernel
theorem dL_act_1139 : decode cL_act 1139 = .ok (.aload_n 1, 1) := by decide +kernel
theorem dL_act_1140 : decode cL_act 1140 = .ok (.getfield 38, 3) := by decide +kernel
theorem dL_act_1143 : decode cL_act 1143 = .ok (.iload 22, 2) := by decide +kernel
theorem dL_act_1145 : decode cL_act 1145 = .ok (.aaload, 1) := by decide +kernel
theorem dL_act_1146 : decode cL_act 1146 = .ok (.iconst 1, 1) := by decide +kernel
theorem dL_act_1147 : decode cL_act 1147 = .ok (.iaload, 1) := by decide +kernel
theorem dL_act_1148 : decode cL_act 1148 = .ok (.istore 23, 2) := by decide +kernel
theorem dL_act_1150 : decode cL_act 1150 = .ok (.aload_n 1, 1) := by decide +kernel
theorem dL_act_1151 : decode cL_act 1151 = .ok (.getfield 38, 3) := by decide +kernel
theorem dL_act_1154 : decode cL_act 1154 = .ok (.iload 22, 2) := by decide +kernel
theorem dL_act_1156 : decode cL_act 1156 = .ok (.aaload, 1) := by decide +kernel
theorem dL_act_1157 : decode cL_act 1157 = .ok (.iconst 1, 1) := by decide +kernel
theorem dL_act_1158 : decode cL_act 1158 = .ok (.iconst (-1), 1) := by decide +kernel
theorem dL_act_1159 : decode cL_act 1159 = .ok (.iastore, 1) := by decide +kernel
theorem dL_act_1160 : decode cL_act 1160 = .ok (.aload_n 0, 1) := by decide +kernel
theorem dL_act_1161 : decode cL_act 1161 = .ok (.iload 22, 2) := by decide +kernel
theorem dL_act_1163 : decode cL_act 1163 = .ok (.invokevirtual 112, 3) := by decide +kernel
theorem dL_act_1166 : decode cL_act 1166 = .ok (.iload 23, 2) := by decide +kernel
theorem dL_act_1168 : decode cL_act 1168 = .ok (.if_icmp .ne 7, 3) := by decide +kernel
theorem dL_act_1171 : decode cL_act 1171 = .ok (.iconst 1, 1) := by decide +kernel
theorem dL_act_1172 : decode cL_act 1172 = .ok (.goto 4, 3) := by decide +kernel
theorem dL_act_1175 : decode cL_act 1175 = .ok (.iconst 0, 1) := by decide +kernel
theorem dL_act_1176 : decode cL_act 1176 = .ok (.ireturn, 1) := by decide +kernel
theorem dL_act_1177 : decode cL_act 1177 = .ok (.iconst 1, 1) := by decide +kernel
theorem dL_act_1178 : decode cL_act 1178 = .ok (.iload_n 2, 1) := by decide +kernel
theorem dL_act_1179 : decode cL_act 1179 = .ok (.iconst 2, 1) := by decide +kernel
theorem dL_act_1180 : decode cL_act 1180 = .ok (.ishr, 1) := by decide +kernel
theorem dL_act_1181 : decode cL_act 1181 = .ok (.iconst 3, 1) := by decide +kernel
theorem dL_act_1182 : decode cL_act 1182 = .ok (.invokestatic 15, 3) := by decide +kernel
theorem dL_act_1185 : decode cL_act 1185 = .ok (.iadd, 1) := by decide +kernel
theorem dL_act_1186 : decode cL_act 1186 = .ok (.istore 24, 2) := by decide +kernel
theorem dL_act_1188 : decode cL_act 1188 = .ok (.aload_n 1, 1) := by decide +kernel
theorem dL_act_1189 : decode cL_act 1189 = .ok (.iconst 4, 1) := by decide +kernel
theorem dL_act_1190 : decode cL_act 1190 = .ok (.invokevirtual 115, 3) := by decide +kernel
theorem dL_act_1193 : decode cL_act 1193 = .ok (.istore 25, 2) := by decide +kernel
theorem dL_act_1195 : decode cL_act 1195 = .ok (.aload_n 1, 1) := by decide +kernel
theorem dL_act_1196 : decode cL_act 1196 = .ok (.iload 24, 2) := by decide +kernel
theorem dL_act_1198 : decode cL_act 1198 = .ok (.invokevirtual 118, 3) := by decide +kernel
theorem dL_act_1201 : decode cL_act 1201 = .ok (.pop, 1) := by decide +kernel
theorem dL_act_1202 : decode cL_act 1202 = .ok (.aload_n 0, 1) := by decide +kernel
theorem dL_act_1203 : decode cL_act 1203 = .ok (.iload 24, 2) := by decide +kernel
theorem dL_act_1205 : decode cL_act 1205 = .ok (.invokevirtual 122, 3) := by decide +kernel
theorem dL_act_1208 : decode cL_act 1208 = .ok (.aload_n 1, 1) := by decide +kernel
theorem dL_act_1209 : decode cL_act 1209 = .ok (.iconst 4, 1) := by decide +kernel
theorem dL_act_1210 : decode cL_act 1210 = .ok (.invokevirtual 115, 3) := by decide +kernel
theorem dL_act_1213 : decode cL_act 1213 = .ok (.iload 25, 2) := by decide +kernel
theorem dL_act_1215 : decode cL_act 1215 = .ok (.isub, 1) := by decide +kernel
theorem dL_act_1216 : decode cL_act 1216 = .ok (.if_icmp .ne 7, 3) := by decide +kernel
theorem dL_act_1219 : decode cL_act 1219 = .ok (.iconst 1, 1) := by decide +kernel
theorem dL_act_1220 : decode cL_act 1220 = .ok (.goto 4, 3) := by decide +kernel
theorem dL_act_1223 : decode cL_act 1223 = .ok (.iconst 0, 1) := by decide +kernel
theorem dL_act_1224 : decode cL_act 1224 = .ok (.ireturn, 1) := by decide +kernel
theorem dL_build_0 : decode cL_build 0 = .ok (.new 10, 3) := by decide +kernel
theorem dL_build_3 : decode cL_build 3 = .ok (.dup, 1) := by decide +kernel
theorem dL_build_4 : decode cL_build 4 = .ok (.invokespecial 125, 3) := by decide +kernel
theorem dL_build_7 : decode cL_build 7 = .ok (.astore_n 2, 1) := by decide +kernel
theorem dL_build_8 : decode cL_build 8 = .ok (.bipush 20, 2) := by decide +kernel
theorem dL_build_10 : decode cL_build 10 = .ok (.aload_n 1, 1) := by decide +kernel
theorem dL_build_11 : decode cL_build 11 = .ok (.iconst 0, 1) := by decide +kernel
theorem dL_build_12 : decode cL_build 12 = .ok (.invokestatic 126, 3) := by decide +kernel
theorem dL_build_15 : decode cL_build 15 = .ok (.bipush 40, 2) := by decide +kernel
theorem dL_build_17 : decode cL_build 17 = .ok (.invokestatic 15, 3) := by decide +kernel
theorem dL_build_20 : decode cL_build 20 = .ok (.iadd, 1) := by decide +kernel
theorem dL_build_21 : decode cL_build 21 = .ok (.istore_n 3, 1) := by decide +kernel
theorem dL_build_22 : decode cL_build 22 = .ok (.iconst 0, 1) := by decide +kernel
theorem dL_build_23 : decode cL_build 23 = .ok (.istore 4, 2) := by decide +kernel
theorem dL_build_25 : decode cL_build 25 = .ok (.iload 4, 2) := by decide +kernel
theorem dL_build_27 : decode cL_build 27 = .ok (.iconst 3, 1) := by decide +kernel
theorem dL_build_28 : decode cL_build 28 = .ok (.if_icmp .ge 38, 3) := by decide +kernel
theorem dL_build_31 : decode cL_build 31 = .ok (.aload_n 0, 1) := by decide +kernel
theorem dL_build_32 : decode cL_build 32 = .ok (.aload_n 2, 1) := by decide +kernel
theorem dL_build_33 : decode cL_build 33 = .ok (.aload_n 1, 1) := by decide +kernel
theorem dL_build_34 : decode cL_build 34 = .ok (.iconst 1, 1) := by decide +kernel
theorem dL_build_35 : decode cL_build 35 = .ok (.iload 4, 2) := by decide +kernel
theorem dL_build_37 : decode cL_build 37 = .ok (.iadd, 1) := by decide +kernel
theorem dL_build_38 : decode cL_build 38 = .ok (.invokestatic 126, 3) := by decide +kernel
theorem dL_build_41 : decode cL_build 41 = .ok (.sipush 511, 3) := by decide +kernel
theorem dL_build_44 : decode cL_build 44 = .ok (.iand, 1) := by decide +kernel
theorem dL_build_45 : decode cL_build 45 = .ok (.sipush 10240, 3) := by decide +kernel
theorem dL_build_48 : decode cL_build 48 = .ok (.iload 4, 2) := by decide +kernel
theorem dL_build_50 : decode cL_build 50 = .ok (.imul, 1) := by decide +kernel
theorem dL_build_51 : decode cL_build 51 = .ok (.iadd, 1) := by decide +kernel
theorem dL_build_52 : decode cL_build 52 = .ok (.invokestatic 130, 3) := by decide +kernel
theorem dL_build_55 : decode cL_build 55 = .ok (.ifCond .ne 5, 3) := by decide +kernel
theorem dL_build_58 : decode cL_build 58 = .ok (.aconst_null, 1) := by decide +kernel
theorem dL_build_59 : decode cL_build 59 = .ok (.areturn, 1) := by decide +kernel
theorem dL_build_60 : decode cL_build 60 = .ok (.iinc 4 1, 3) := by decide +kernel
theorem dL_build_63 : decode cL_build 63 = .ok (.goto (-38), 3) := by decide +kernel
theorem dL_build_66 : decode cL_build 66 = .ok (.iconst 0, 1) := by decide +kernel
theorem dL_build_67 : decode cL_build 67 = .ok (.istore 4, 2) := by decide +kernel
theorem dL_build_69 : decode cL_build 69 = .ok (.iload 4, 2) := by decide +kernel
theorem dL_build_71 : decode cL_build 71 = .ok (.iload_n 3, 1) := by decide +kernel
theorem dL_build_72 : decode cL_build 72 = .ok (.if_icmp .ge 43, 3) := by decide +kernel
theorem dL_build_75 : decode cL_build 75 = .ok (.aload_n 0, 1) := by decide +kernel
theorem dL_build_76 : decode cL_build 76 = .ok (.aload_n 2, 1) := by decide +kernel
theorem dL_build_77 : decode cL_build 77 = .ok (.aload_n 1, 1) := by decide +kernel
theorem dL_build_78 : decode cL_build 78 = .ok (.iload 4, 2) := by decide +kernel
theorem dL_build_80 : decode cL_build 80 = .ok (.bipush 16, 2) := by decide +kernel
theorem dL_build_82 : decode cL_build 82 = .ok (.irem, 1) := by decide +kernel
theorem dL_build_83 : decode cL_build 83 = .ok (.invokestatic 126, 3) := by decide +kernel
theorem dL_build_86 : decode cL_build 86 = .ok (.iload 4, 2) := by decide +kernel
theorem dL_build_88 : decode cL_build 88 = .ok (.bipush 16, 2) := by decide +kernel
theorem dL_build_90 : decode cL_build 90 = .ok (.idiv, 1) := by decide +kernel
theorem dL_build_91 : decode cL_build 91 = .ok (.iconst 3, 1) := by decide +kernel
theorem dL_build_92 : decode cL_build 92 = .ok (.imul, 1) := by decide +kernel
theorem dL_build_93 : decode cL_build 93 = .ok (.ishr, 1) := by decide +kernel
theorem dL_build_94 : decode cL_build 94 = .ok (.sipush 449, 3) := by decide +kernel
theorem dL_build_97 : decode cL_build 97 = .ok (.iload 4, 2) := by decide +kernel
theorem dL_build_99 : decode cL_build 99 = .ok (.imul, 1) := by decide +kernel
theorem dL_build_100 : decode cL_build 100 = .ok (.iadd, 1) := by decide +kernel
theorem dL_build_101 : decode cL_build 101 = .ok (.invokestatic 130, 3) := by decide +kernel
theorem dL_build_104 : decode cL_build 104 = .ok (.ifCond .ne 5, 3) := by decide +kernel
theorem dL_build_107 : decode cL_build 107 = .ok (.aconst_null, 1) := by decide +kernel
theorem dL_build_108 : decode cL_build 108 = .ok (.areturn, 1) := by decide +kernel
theorem dL_build_109 : decode cL_build 109 = .ok (.iinc 4 1, 3) := by decide +kernel
theorem dL_build_112 : decode cL_build 112 = .ok (.goto (-43), 3) := by decide +kernel
theorem dL_build_115 : decode cL_build 115 = .ok (.aload_n 2, 1) := by decide +kernel
theorem dL_build_116 : decode cL_build 116 = .ok (.areturn, 1) := by decide +kernel
