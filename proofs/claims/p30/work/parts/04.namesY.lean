set_option maxRecDepth 20000 in
theorem ggX4_init_X2_init : GoodIn wsX4_init wsX2_init := goodIn_r _ [21, 22, 2, 3, 23, 24, 25, 26, 27, 28, 29, 30, 31, 32, 33, 7, 34, 73, 74, 75, 76] (by decide +kernel) (by decide +kernel)
set_option maxRecDepth 20000 in
theorem gX4_init_X2_init : GoodIn wsX4_init (wsX2_init) := ggX4_init_X2_init
set_option maxRecDepth 20000 in
theorem ggX4_init_X6_init : GoodIn wsX4_init wsX6_init := goodIn_r _ [37, 38, 2, 3, 25, 39, 77] (by decide +kernel) (by decide +kernel)
set_option maxRecDepth 20000 in
theorem gX4_init_X6_init : GoodIn wsX4_init (wsX6_init) := ggX4_init_X6_init
set_option maxRecDepth 20000 in
theorem ggX4_init_X3_init : GoodIn wsX4_init wsX3_init := goodIn_r _ [42, 43, 2, 3, 44, 45, 46, 47, 48, 49, 50, 51, 52, 9, 10, 53, 54, 55, 56, 57, 58, 59, 25, 60, 61, 62, 63, 64, 65, 66, 36, 37, 38, 39, 78, 79, 80, 81, 82, 83, 84, 85, 86, 87, 88, 89, 90, 91, 92, 77] (by decide +kernel) (by decide +kernel)
set_option maxRecDepth 20000 in
theorem gX4_init_X3_init : GoodIn wsX4_init (wsX3_init) := ggX4_init_X3_init
theorem dX4_init_0 : decode cX4_init 0 = .ok (.aload_n 0, 1) := by decide +kernel
theorem dX4_init_1 : decode cX4_init 1 = .ok (.invokespecial 1, 3) := by decide +kernel
theorem dX4_init_4 : decode cX4_init 4 = .ok (.aload_n 0, 1) := by decide +kernel
theorem dX4_init_5 : decode cX4_init 5 = .ok (.bipush 6, 2) := by decide +kernel
theorem dX4_init_7 : decode cX4_init 7 = .ok (.anewarray 9, 3) := by decide +kernel
theorem dX4_init_10 : decode cX4_init 10 = .ok (.putfield 11, 3) := by decide +kernel
theorem dX4_init_13 : decode cX4_init 13 = .ok (.iconst 0, 1) := by decide +kernel
theorem dX4_init_14 : decode cX4_init 14 = .ok (.istore_n 1, 1) := by decide +kernel
theorem dX4_init_15 : decode cX4_init 15 = .ok (.iload_n 1, 1) := by decide +kernel
theorem dX4_init_16 : decode cX4_init 16 = .ok (.bipush 6, 2) := by decide +kernel
theorem dX4_init_18 : decode cX4_init 18 = .ok (.if_icmp .ge 25, 3) := by decide +kernel
theorem dX4_init_21 : decode cX4_init 21 = .ok (.aload_n 0, 1) := by decide +kernel
theorem dX4_init_22 : decode cX4_init 22 = .ok (.getfield 11, 3) := by decide +kernel
theorem dX4_init_25 : decode cX4_init 25 = .ok (.iload_n 1, 1) := by decide +kernel
theorem dX4_init_26 : decode cX4_init 26 = .ok (.new 9, 3) := by decide +kernel
theorem dX4_init_29 : decode cX4_init 29 = .ok (.dup, 1) := by decide +kernel
theorem dX4_init_30 : decode cX4_init 30 = .ok (.iload_n 1, 1) := by decide +kernel
theorem dX4_init_31 : decode cX4_init 31 = .ok (.iconst 1, 1) := by decide +kernel
theorem dX4_init_32 : decode cX4_init 32 = .ok (.iadd, 1) := by decide +kernel
theorem dX4_init_33 : decode cX4_init 33 = .ok (.invokespecial 15, 3) := by decide +kernel
theorem dX4_init_36 : decode cX4_init 36 = .ok (.aastore, 1) := by decide +kernel
theorem dX4_init_37 : decode cX4_init 37 = .ok (.iinc 1 1, 3) := by decide +kernel
theorem dX4_init_40 : decode cX4_init 40 = .ok (.goto (-25), 3) := by decide +kernel
theorem dX4_init_43 : decode cX4_init 43 = .ok (.aload_n 0, 1) := by decide +kernel
theorem dX4_init_44 : decode cX4_init 44 = .ok (.new 18, 3) := by decide +kernel
theorem dX4_init_47 : decode cX4_init 47 = .ok (.dup, 1) := by decide +kernel
theorem dX4_init_48 : decode cX4_init 48 = .ok (.invokespecial 20, 3) := by decide +kernel
theorem dX4_init_51 : decode cX4_init 51 = .ok (.putfield 21, 3) := by decide +kernel
theorem dX4_init_54 : decode cX4_init 54 = .ok (.aload_n 0, 1) := by decide +kernel
theorem dX4_init_55 : decode cX4_init 55 = .ok (.new 18, 3) := by decide +kernel
theorem dX4_init_58 : decode cX4_init 58 = .ok (.dup, 1) := by decide +kernel
theorem dX4_init_59 : decode cX4_init 59 = .ok (.invokespecial 20, 3) := by decide +kernel
theorem dX4_init_62 : decode cX4_init 62 = .ok (.putfield 25, 3) := by decide +kernel
theorem dX4_init_65 : decode cX4_init 65 = .ok (.aload_n 0, 1) := by decide +kernel
theorem dX4_init_66 : decode cX4_init 66 = .ok (.new 18, 3) := by decide +kernel
theorem dX4_init_69 : decode cX4_init 69 = .ok (.dup, 1) := by decide +kernel
theorem dX4_init_70 : decode cX4_init 70 = .ok (.invokespecial 20, 3) := by decide +kernel
theorem dX4_init_73 : decode cX4_init 73 = .ok (.putfield 28, 3) := by decide +kernel
theorem dX4_init_76 : decode cX4_init 76 = .ok (.aload_n 0, 1) := by decide +kernel
theorem dX4_init_77 : decode cX4_init 77 = .ok (.new 31, 3) := by decide +kernel
theorem dX4_init_80 : decode cX4_init 80 = .ok (.dup, 1) := by decide +kernel
theorem dX4_init_81 : decode cX4_init 81 = .ok (.aload_n 0, 1) := by decide +kernel
theorem dX4_init_82 : decode cX4_init 82 = .ok (.getfield 11, 3) := by decide +kernel
theorem dX4_init_85 : decode cX4_init 85 = .ok (.iconst 0, 1) := by decide +kernel
theorem dX4_init_86 : decode cX4_init 86 = .ok (.aaload, 1) := by decide +kernel
theorem dX4_init_87 : decode cX4_init 87 = .ok (.invokespecial 33, 3) := by decide +kernel
theorem dX4_init_90 : decode cX4_init 90 = .ok (.putfield 36, 3) := by decide +kernel
theorem dX4_init_93 : decode cX4_init 93 = .ok (.aload_n 0, 1) := by decide +kernel
theorem dX4_init_94 : decode cX4_init 94 = .ok (.new 31, 3) := by decide +kernel
theorem dX4_init_97 : decode cX4_init 97 = .ok (.dup, 1) := by decide +kernel
theorem dX4_init_98 : decode cX4_init 98 = .ok (.aload_n 0, 1) := by decide +kernel
theorem dX4_init_99 : decode cX4_init 99 = .ok (.getfield 11, 3) := by decide +kernel
theorem dX4_init_102 : decode cX4_init 102 = .ok (.iconst 0, 1) := by decide +kernel
theorem dX4_init_103 : decode cX4_init 103 = .ok (.aaload, 1) := by decide +kernel
theorem dX4_init_104 : decode cX4_init 104 = .ok (.invokespecial 33, 3) := by decide +kernel
theorem dX4_init_107 : decode cX4_init 107 = .ok (.putfield 40, 3) := by decide +kernel
theorem dX4_init_110 : decode cX4_init 110 = .ok (.return_, 1) := by decide +kernel
set_option maxRecDepth 20000 in
theorem ggX4_pile_X4_checkCalibre : GoodIn wsX4_pile wsX4_checkCalibre := goodIn_ca (goodIn_r _ [10, 11, 12, 13, 14, 9, 15] (by decide +kernel) (by decide +kernel)) (goodIn_sub (fun _ h => List.mem_cons_of_mem _ (List.mem_append_left _ (List.mem_append_right _ h))) (by decide +kernel))
set_option maxRecDepth 20000 in
theorem gX4_pile_X4_checkCalibre : GoodIn wsX4_pile (va_wsS RX4 43 yX4_checkCalibre wsX4_checkCalibre) := goodIn_app (goodIn_of _ (by decide +kernel)) ggX4_pile_X4_checkCalibre
set_option maxRecDepth 20000 in
theorem ggX4_pile_X4_checkArgument : GoodIn wsX4_pile wsX4_checkArgument := goodIn_ca (goodIn_r _ [18, 19, 20, 13, 14, 9, 15] (by decide +kernel) (by decide +kernel)) (goodIn_sub (fun _ h => List.mem_cons_of_mem _ (List.mem_append_right _ h)) (by decide +kernel))
set_option maxRecDepth 20000 in
theorem gX4_pile_X4_checkArgument : GoodIn wsX4_pile (va_wsS RX4 46 yX4_checkArgument wsX4_checkArgument) := goodIn_app (goodIn_of _ (by decide +kernel)) ggX4_pile_X4_checkArgument
set_option maxRecDepth 20000 in
theorem ggX4_pile_X1_begin : GoodIn wsX4_pile wsX1_begin := goodIn_r _ [25, 26, 27, 28, 43, 44, 45, 46] (by decide +kernel) (by decide +kernel)
set_option maxRecDepth 20000 in
theorem gX4_pile_X1_begin : GoodIn wsX4_pile (wsV RX4 65 RX1 yX1_begin wsX1_begin) := goodIn_app (goodIn_of _ (by decide +kernel)) ggX4_pile_X1_begin
theorem dX4_pile_0 : decode cX4_pile 0 = .ok (.iload_n 1, 1) := by decide +kernel
theorem dX4_pile_1 : decode cX4_pile 1 = .ok (.invokestatic 43, 3) := by decide +kernel
theorem dX4_pile_4 : decode cX4_pile 4 = .ok (.iload_n 2, 1) := by decide +kernel
theorem dX4_pile_5 : decode cX4_pile 5 = .ok (.iconst 1, 1) := by decide +kernel
theorem dX4_pile_6 : decode cX4_pile 6 = .ok (.bipush 6, 2) := by decide +kernel
theorem dX4_pile_8 : decode cX4_pile 8 = .ok (.invokestatic 46, 3) := by decide +kernel
theorem dX4_pile_11 : decode cX4_pile 11 = .ok (.aload_n 0, 1) := by decide +kernel
theorem dX4_pile_12 : decode cX4_pile 12 = .ok (.getfield 36, 3) := by decide +kernel
theorem dX4_pile_15 : decode cX4_pile 15 = .ok (.getfield 50, 3) := by decide +kernel
theorem dX4_pile_18 : decode cX4_pile 18 = .ok (.bipush 6, 2) := by decide +kernel
theorem dX4_pile_20 : decode cX4_pile 20 = .ok (.if_icmp .lt 13, 3) := by decide +kernel
theorem dX4_pile_23 : decode cX4_pile 23 = .ok (.new 54, 3) := by decide +kernel
theorem dX4_pile_26 : decode cX4_pile 26 = .ok (.dup, 1) := by decide +kernel
theorem dX4_pile_27 : decode cX4_pile 27 = .ok (.ldc 56, 2) := by decide +kernel
theorem dX4_pile_29 : decode cX4_pile 29 = .ok (.invokespecial 58, 3) := by decide +kernel
theorem dX4_pile_32 : decode cX4_pile 32 = .ok (.athrow, 1) := by decide +kernel
theorem dX4_pile_33 : decode cX4_pile 33 = .ok (.aload_n 0, 1) := by decide +kernel
theorem dX4_pile_34 : decode cX4_pile 34 = .ok (.getfield 36, 3) := by decide +kernel
theorem dX4_pile_37 : decode cX4_pile 37 = .ok (.getfield 50, 3) := by decide +kernel
theorem dX4_pile_40 : decode cX4_pile 40 = .ok (.istore_n 3, 1) := by decide +kernel
theorem dX4_pile_41 : decode cX4_pile 41 = .ok (.aload_n 0, 1) := by decide +kernel
theorem dX4_pile_42 : decode cX4_pile 42 = .ok (.getfield 36, 3) := by decide +kernel
theorem dX4_pile_45 : decode cX4_pile 45 = .ok (.getfield 61, 3) := by decide +kernel
theorem dX4_pile_48 : decode cX4_pile 48 = .ok (.iload_n 3, 1) := by decide +kernel
theorem dX4_pile_49 : decode cX4_pile 49 = .ok (.aaload, 1) := by decide +kernel
theorem dX4_pile_50 : decode cX4_pile 50 = .ok (.iload_n 1, 1) := by decide +kernel
theorem dX4_pile_51 : decode cX4_pile 51 = .ok (.aload_n 0, 1) := by decide +kernel
theorem dX4_pile_52 : decode cX4_pile 52 = .ok (.getfield 11, 3) := by decide +kernel
theorem dX4_pile_55 : decode cX4_pile 55 = .ok (.iload_n 2, 1) := by decide +kernel
theorem dX4_pile_56 : decode cX4_pile 56 = .ok (.iconst 1, 1) := by decide +kernel
theorem dX4_pile_57 : decode cX4_pile 57 = .ok (.isub, 1) := by decide +kernel
theorem dX4_pile_58 : decode cX4_pile 58 = .ok (.aaload, 1) := by decide +kernel
theorem dX4_pile_59 : decode cX4_pile 59 = .ok (.invokevirtual 65, 3) := by decide +kernel
theorem dX4_pile_62 : decode cX4_pile 62 = .ok (.aload_n 0, 1) := by decide +kernel
theorem dX4_pile_63 : decode cX4_pile 63 = .ok (.getfield 36, 3) := by decide +kernel
theorem dX4_pile_66 : decode cX4_pile 66 = .ok (.dup, 1) := by decide +kernel
theorem dX4_pile_67 : decode cX4_pile 67 = .ok (.getfield 50, 3) := by decide +kernel
theorem dX4_pile_70 : decode cX4_pile 70 = .ok (.iconst 1, 1) := by decide +kernel
theorem dX4_pile_71 : decode cX4_pile 71 = .ok (.iadd, 1) := by decide +kernel
theorem dX4_pile_72 : decode cX4_pile 72 = .ok (.putfield 50, 3) := by decide +kernel
theorem dX4_pile_75 : decode cX4_pile 75 = .ok (.iload_n 3, 1) := by decide +kernel
theorem dX4_pile_76 : decode cX4_pile 76 = .ok (.ireturn, 1) := by decide +kernel
set_option maxRecDepth 20000 in
theorem ggX4_cat_X4_checkArgument : GoodIn wsX4_cat wsX4_checkArgument := goodIn_ca (goodIn_r _ [10, 11, 12, 13, 14, 9, 15] (by decide +kernel) (by decide +kernel)) (goodIn_sub (fun _ h => List.mem_cons_of_mem _ (List.mem_append_right _ h)) (by decide +kernel))
set_option maxRecDepth 20000 in
theorem gX4_cat_X4_checkArgument : GoodIn wsX4_cat (va_wsS RX4 46 yX4_checkArgument wsX4_checkArgument) := goodIn_app (goodIn_of _ (by decide +kernel)) ggX4_cat_X4_checkArgument
theorem dX4_cat_0 : decode cX4_cat 0 = .ok (.iload_n 1, 1) := by decide +kernel
theorem dX4_cat_1 : decode cX4_cat 1 = .ok (.iconst 1, 1) := by decide +kernel
theorem dX4_cat_2 : decode cX4_cat 2 = .ok (.iconst 5, 1) := by decide +kernel
theorem dX4_cat_3 : decode cX4_cat 3 = .ok (.invokestatic 46, 3) := by decide +kernel
theorem dX4_cat_6 : decode cX4_cat 6 = .ok (.aload_n 0, 1) := by decide +kernel
theorem dX4_cat_7 : decode cX4_cat 7 = .ok (.getfield 36, 3) := by decide +kernel
theorem dX4_cat_10 : decode cX4_cat 10 = .ok (.getfield 71, 3) := by decide +kernel
theorem dX4_cat_13 : decode cX4_cat 13 = .ok (.iconst 3, 1) := by decide +kernel
theorem dX4_cat_14 : decode cX4_cat 14 = .ok (.if_icmp .lt 13, 3) := by decide +kernel
theorem dX4_cat_17 : decode cX4_cat 17 = .ok (.new 54, 3) := by decide +kernel
theorem dX4_cat_20 : decode cX4_cat 20 = .ok (.dup, 1) := by decide +kernel
theorem dX4_cat_21 : decode cX4_cat 21 = .ok (.ldc 74, 2) := by decide +kernel
theorem dX4_cat_23 : decode cX4_cat 23 = .ok (.invokespecial 58, 3) := by decide +kernel
theorem dX4_cat_26 : decode cX4_cat 26 = .ok (.athrow, 1) := by decide +kernel
theorem dX4_cat_27 : decode cX4_cat 27 = .ok (.aload_n 0, 1) := by decide +kernel
theorem dX4_cat_28 : decode cX4_cat 28 = .ok (.getfield 36, 3) := by decide +kernel
theorem dX4_cat_31 : decode cX4_cat 31 = .ok (.getfield 71, 3) := by decide +kernel
theorem dX4_cat_34 : decode cX4_cat 34 = .ok (.istore_n 2, 1) := by decide +kernel
theorem dX4_cat_35 : decode cX4_cat 35 = .ok (.aload_n 0, 1) := by decide +kernel
theorem dX4_cat_36 : decode cX4_cat 36 = .ok (.getfield 36, 3) := by decide +kernel
theorem dX4_cat_39 : decode cX4_cat 39 = .ok (.getfield 76, 3) := by decide +kernel
theorem dX4_cat_42 : decode cX4_cat 42 = .ok (.iload_n 2, 1) := by decide +kernel
theorem dX4_cat_43 : decode cX4_cat 43 = .ok (.aaload, 1) := by decide +kernel
theorem dX4_cat_44 : decode cX4_cat 44 = .ok (.iload_n 1, 1) := by decide +kernel
theorem dX4_cat_45 : decode cX4_cat 45 = .ok (.putfield 80, 3) := by decide +kernel
theorem dX4_cat_48 : decode cX4_cat 48 = .ok (.aload_n 0, 1) := by decide +kernel
theorem dX4_cat_49 : decode cX4_cat 49 = .ok (.getfield 36, 3) := by decide +kernel
theorem dX4_cat_52 : decode cX4_cat 52 = .ok (.dup, 1) := by decide +kernel
theorem dX4_cat_53 : decode cX4_cat 53 = .ok (.getfield 71, 3) := by decide +kernel
theorem dX4_cat_56 : decode cX4_cat 56 = .ok (.iconst 1, 1) := by decide +kernel
theorem dX4_cat_57 : decode cX4_cat 57 = .ok (.iadd, 1) := by decide +kernel
theorem dX4_cat_58 : decode cX4_cat 58 = .ok (.putfield 71, 3) := by decide +kernel
theorem dX4_cat_61 : decode cX4_cat 61 = .ok (.iload_n 2, 1) := by decide +kernel
theorem dX4_cat_62 : decode cX4_cat 62 = .ok (.ireturn, 1) := by decide +kernel
set_option maxRecDepth 20000 in
theorem ggX4_give_X4_checkCalibre : GoodIn wsX4_give wsX4_checkCalibre := goodIn_ca (goodIn_r _ [5, 6, 7, 8, 9, 4, 10] (by decide +kernel) (by decide +kernel)) (goodIn_sub (fun _ h => List.mem_cons_of_mem _ (List.mem_append_left _ (List.mem_append_right _ h))) (by decide +kernel))
set_option maxRecDepth 20000 in
theorem gX4_give_X4_checkCalibre : GoodIn wsX4_give (va_wsS RX4 43 yX4_checkCalibre wsX4_checkCalibre) := goodIn_app (goodIn_of _ (by decide +kernel)) ggX4_give_X4_checkCalibre
set_option maxRecDepth 20000 in
theorem ggX4_give_X4_checkArgument : GoodIn wsX4_give wsX4_checkArgument := goodIn_ca (goodIn_r _ [13, 14, 15, 8, 9, 4, 10] (by decide +kernel) (by decide +kernel)) (goodIn_sub (fun _ h => List.mem_cons_of_mem _ (List.mem_append_right _ h)) (by decide +kernel))
set_option maxRecDepth 20000 in
theorem gX4_give_X4_checkArgument : GoodIn wsX4_give (va_wsS RX4 46 yX4_checkArgument wsX4_checkArgument) := goodIn_app (goodIn_of _ (by decide +kernel)) ggX4_give_X4_checkArgument
set_option maxRecDepth 20000 in
theorem ggX4_give_X6_add : GoodIn wsX4_give wsX6_add := goodIn_r _ [20, 21, 32] (by decide +kernel) (by decide +kernel)
set_option maxRecDepth 20000 in
theorem gX4_give_X6_add : GoodIn wsX4_give (wsV RX4 85 RX6 yX6_add wsX6_add) := goodIn_app (goodIn_of _ (by decide +kernel)) ggX4_give_X6_add
set_option maxRecDepth 20000 in
theorem ggX4_give_X6_of : GoodIn wsX4_give wsX6_of := goodIn_r _ [25, 21, 32] (by decide +kernel) (by decide +kernel)
set_option maxRecDepth 20000 in
theorem gX4_give_X6_of : GoodIn wsX4_give (wsV RX4 89 RX6 yX6_of wsX6_of) := goodIn_app (goodIn_of _ (by decide +kernel)) ggX4_give_X6_of
theorem dX4_give_0 : decode cX4_give 0 = .ok (.iload_n 1, 1) := by decide +kernel
theorem dX4_give_1 : decode cX4_give 1 = .ok (.invokestatic 43, 3) := by decide +kernel
theorem dX4_give_4 : decode cX4_give 4 = .ok (.iload_n 2, 1) := by decide +kernel
theorem dX4_give_5 : decode cX4_give 5 = .ok (.iconst 1, 1) := by decide +kernel
theorem dX4_give_6 : decode cX4_give 6 = .ok (.bipush 99, 2) := by decide +kernel
theorem dX4_give_8 : decode cX4_give 8 = .ok (.invokestatic 46, 3) := by decide +kernel
theorem dX4_give_11 : decode cX4_give 11 = .ok (.aload_n 0, 1) := by decide +kernel
theorem dX4_give_12 : decode cX4_give 12 = .ok (.getfield 21, 3) := by decide +kernel
theorem dX4_give_15 : decode cX4_give 15 = .ok (.iload_n 1, 1) := by decide +kernel
theorem dX4_give_16 : decode cX4_give 16 = .ok (.iload_n 2, 1) := by decide +kernel
theorem dX4_give_17 : decode cX4_give 17 = .ok (.invokevirtual 85, 3) := by decide +kernel
theorem dX4_give_20 : decode cX4_give 20 = .ok (.aload_n 0, 1) := by decide +kernel
theorem dX4_give_21 : decode cX4_give 21 = .ok (.getfield 21, 3) := by decide +kernel
theorem dX4_give_24 : decode cX4_give 24 = .ok (.iload_n 1, 1) := by decide +kernel
theorem dX4_give_25 : decode cX4_give 25 = .ok (.invokevirtual 89, 3) := by decide +kernel
theorem dX4_give_28 : decode cX4_give 28 = .ok (.ireturn, 1) := by decide +kernel
set_option maxRecDepth 20000 in
theorem ggX4_setRain_X4_checkArgument : GoodIn wsX4_setRain wsX4_checkArgument := goodIn_ca (goodIn_r _ [6, 7, 8, 9, 10, 5, 11] (by decide +kernel) (by decide +kernel)) (goodIn_sub (fun _ h => List.mem_cons_of_mem _ (List.mem_append_right _ h)) (by decide +kernel))
set_option maxRecDepth 20000 in
theorem gX4_setRain_X4_checkArgument : GoodIn wsX4_setRain (va_wsS RX4 46 yX4_checkArgument wsX4_checkArgument) := goodIn_app (goodIn_of _ (by decide +kernel)) ggX4_setRain_X4_checkArgument
theorem dX4_setRain_0 : decode cX4_setRain 0 = .ok (.iload_n 1, 1) := by decide +kernel
theorem dX4_setRain_1 : decode cX4_setRain 1 = .ok (.iconst 0, 1) := by decide +kernel
theorem dX4_setRain_2 : decode cX4_setRain 2 = .ok (.iconst 3, 1) := by decide +kernel
theorem dX4_setRain_3 : decode cX4_setRain 3 = .ok (.invokestatic 46, 3) := by decide +kernel
theorem dX4_setRain_6 : decode cX4_setRain 6 = .ok (.aload_n 0, 1) := by decide +kernel
theorem dX4_setRain_7 : decode cX4_setRain 7 = .ok (.getfield 36, 3) := by decide +kernel
theorem dX4_setRain_10 : decode cX4_setRain 10 = .ok (.getfield 93, 3) := by decide +kernel
theorem dX4_setRain_13 : decode cX4_setRain 13 = .ok (.istore_n 2, 1) := by decide +kernel
theorem dX4_setRain_14 : decode cX4_setRain 14 = .ok (.aload_n 0, 1) := by decide +kernel
theorem dX4_setRain_15 : decode cX4_setRain 15 = .ok (.getfield 36, 3) := by decide +kernel
theorem dX4_setRain_18 : decode cX4_setRain 18 = .ok (.iload_n 1, 1) := by decide +kernel
theorem dX4_setRain_19 : decode cX4_setRain 19 = .ok (.putfield 93, 3) := by decide +kernel
theorem dX4_setRain_22 : decode cX4_setRain 22 = .ok (.iload_n 2, 1) := by decide +kernel
theorem dX4_setRain_23 : decode cX4_setRain 23 = .ok (.ireturn, 1) := by decide +kernel
set_option maxRecDepth 20000 in
theorem ggX4_setLimit_X4_checkArgument : GoodIn wsX4_setLimit wsX4_checkArgument := goodIn_ca (goodIn_r _ [6, 7, 8, 9, 10, 5, 11] (by decide +kernel) (by decide +kernel)) (goodIn_sub (fun _ h => List.mem_cons_of_mem _ (List.mem_append_right _ h)) (by decide +kernel))
set_option maxRecDepth 20000 in
theorem gX4_setLimit_X4_checkArgument : GoodIn wsX4_setLimit (va_wsS RX4 46 yX4_checkArgument wsX4_checkArgument) := goodIn_app (goodIn_of _ (by decide +kernel)) ggX4_setLimit_X4_checkArgument
theorem dX4_setLimit_0 : decode cX4_setLimit 0 = .ok (.iload_n 1, 1) := by decide +kernel
theorem dX4_setLimit_1 : decode cX4_setLimit 1 = .ok (.iconst 1, 1) := by decide +kernel
theorem dX4_setLimit_2 : decode cX4_setLimit 2 = .ok (.bipush 9, 2) := by decide +kernel
theorem dX4_setLimit_4 : decode cX4_setLimit 4 = .ok (.invokestatic 46, 3) := by decide +kernel
theorem dX4_setLimit_7 : decode cX4_setLimit 7 = .ok (.aload_n 0, 1) := by decide +kernel
theorem dX4_setLimit_8 : decode cX4_setLimit 8 = .ok (.getfield 36, 3) := by decide +kernel
theorem dX4_setLimit_11 : decode cX4_setLimit 11 = .ok (.getfield 96, 3) := by decide +kernel
theorem dX4_setLimit_14 : decode cX4_setLimit 14 = .ok (.istore_n 2, 1) := by decide +kernel
theorem dX4_setLimit_15 : decode cX4_setLimit 15 = .ok (.aload_n 0, 1) := by decide +kernel
theorem dX4_setLimit_16 : decode cX4_setLimit 16 = .ok (.getfield 36, 3) := by decide +kernel
theorem dX4_setLimit_19 : decode cX4_setLimit 19 = .ok (.iload_n 1, 1) := by decide +kernel
theorem dX4_setLimit_20 : decode cX4_setLimit 20 = .ok (.putfield 96, 3) := by decide +kernel
theorem dX4_setLimit_23 : decode cX4_setLimit 23 = .ok (.iload_n 2, 1) := by decide +kernel
theorem dX4_setLimit_24 : decode cX4_setLimit 24 = .ok (.ireturn, 1) := by decide +kernel
set_option maxRecDepth 20000 in
theorem ggX4_stack_X4_checkPile : GoodIn wsX4_stack wsX4_checkPile := goodIn_ca (goodIn_r _ [12, 13, 14, 3, 15, 16, 17, 11, 18, 52, 53, 54, 55, 56, 57, 58, 59, 60, 61, 62, 63, 64, 65] (by decide +kernel) (by decide +kernel)) (goodIn_sub (fun _ h => List.mem_cons_of_mem _ (List.mem_append_left _ (List.mem_append_right _ h))) (by decide +kernel))
set_option maxRecDepth 20000 in
theorem gX4_stack_X4_checkPile : GoodIn wsX4_stack (wsV RX4 99 RX4 yX4_checkPile wsX4_checkPile) := goodIn_app (goodIn_of _ (by decide +kernel)) ggX4_stack_X4_checkPile
set_option maxRecDepth 20000 in
theorem ggX4_stack_X4_checkArgument : GoodIn wsX4_stack wsX4_checkArgument := goodIn_ca (goodIn_r _ [21, 22, 23, 16, 17, 11, 18] (by decide +kernel) (by decide +kernel)) (goodIn_sub (fun _ h => List.mem_cons_of_mem _ (List.mem_append_right _ h)) (by decide +kernel))
set_option maxRecDepth 20000 in
theorem gX4_stack_X4_checkArgument : GoodIn wsX4_stack (va_wsS RX4 46 yX4_checkArgument wsX4_checkArgument) := goodIn_app (goodIn_of _ (by decide +kernel)) ggX4_stack_X4_checkArgument
set_option maxRecDepth 20000 in
theorem ggX4_stack_X6_of : GoodIn wsX4_stack wsX6_of := goodIn_r _ [28, 29, 70] (by decide +kernel) (by decide +kernel)
set_option maxRecDepth 20000 in
theorem gX4_stack_X6_of : GoodIn wsX4_stack (wsV RX4 89 RX6 yX6_of wsX6_of) := goodIn_app (goodIn_of _ (by decide +kernel)) ggX4_stack_X6_of
set_option maxRecDepth 20000 in
theorem ggX4_stack_X1_spare : GoodIn wsX4_stack wsX1_spare := goodIn_r _ [34, 35, 36, 37, 66, 67, 68, 69, 71, 72, 73, 74] (by decide +kernel) (by decide +kernel)
set_option maxRecDepth 20000 in
theorem gX4_stack_X1_spare : GoodIn wsX4_stack (wsV RX4 107 RX1 yX1_spare wsX1_spare) := goodIn_app (goodIn_of _ (by decide +kernel)) ggX4_stack_X1_spare
set_option maxRecDepth 20000 in
theorem ggX4_stack_X1_put : GoodIn wsX4_stack wsX1_put := goodIn_r _ [41, 37, 42, 31, 32, 33, 34, 35, 36, 43, 44, 45, 46, 47, 66, 67, 68, 69, 71, 72, 73, 74] (by decide +kernel) (by decide +kernel)
set_option maxRecDepth 20000 in
theorem gX4_stack_X1_put : GoodIn wsX4_stack (wsV RX4 113 RX1 yX1_put wsX1_put) := goodIn_app (goodIn_of _ (by decide +kernel)) ggX4_stack_X1_put
set_option maxRecDepth 20000 in
theorem ggX4_stack_X6_add : GoodIn wsX4_stack wsX6_add := goodIn_r _ [51, 29, 70] (by decide +kernel) (by decide +kernel)
set_option maxRecDepth 20000 in
theorem gX4_stack_X6_add : GoodIn wsX4_stack (wsV RX4 85 RX6 yX6_add wsX6_add) := goodIn_app (goodIn_of _ (by decide +kernel)) ggX4_stack_X6_add
theorem dX4_stack_0 : decode cX4_stack 0 = .ok (.aload_n 0, 1) := by decide +kernel
theorem dX4_stack_1 : decode cX4_stack 1 = .ok (.iload_n 1, 1) := by decide +kernel
theorem dX4_stack_2 : decode cX4_stack 2 = .ok (.invokevirtual 99, 3) := by decide +kernel
theorem dX4_stack_5 : decode cX4_stack 5 = .ok (.iload_n 2, 1) := by decide +kernel
theorem dX4_stack_6 : decode cX4_stack 6 = .ok (.iconst 1, 1) := by decide +kernel
theorem dX4_stack_7 : decode cX4_stack 7 = .ok (.bipush 91, 2) := by decide +kernel
theorem dX4_stack_9 : decode cX4_stack 9 = .ok (.invokestatic 46, 3) := by decide +kernel
theorem dX4_stack_12 : decode cX4_stack 12 = .ok (.aload_n 0, 1) := by decide +kernel
theorem dX4_stack_13 : decode cX4_stack 13 = .ok (.getfield 36, 3) := by decide +kernel
theorem dX4_stack_16 : decode cX4_stack 16 = .ok (.getfield 61, 3) := by decide +kernel
theorem dX4_stack_19 : decode cX4_stack 19 = .ok (.iload_n 1, 1) := by decide +kernel
theorem dX4_stack_20 : decode cX4_stack 20 = .ok (.aaload, 1) := by decide +kernel
theorem dX4_stack_21 : decode cX4_stack 21 = .ok (.astore_n 3, 1) := by decide +kernel
theorem dX4_stack_22 : decode cX4_stack 22 = .ok (.aload_n 0, 1) := by decide +kernel
theorem dX4_stack_23 : decode cX4_stack 23 = .ok (.getfield 21, 3) := by decide +kernel
theorem dX4_stack_26 : decode cX4_stack 26 = .ok (.aload_n 3, 1) := by decide +kernel
theorem dX4_stack_27 : decode cX4_stack 27 = .ok (.getfield 102, 3) := by decide +kernel
theorem dX4_stack_30 : decode cX4_stack 30 = .ok (.invokevirtual 89, 3) := by decide +kernel
theorem dX4_stack_33 : decode cX4_stack 33 = .ok (.iload_n 2, 1) := by decide +kernel
theorem dX4_stack_34 : decode cX4_stack 34 = .ok (.if_icmp .ge 13, 3) := by decide +kernel
theorem dX4_stack_37 : decode cX4_stack 37 = .ok (.new 54, 3) := by decide +kernel
theorem dX4_stack_40 : decode cX4_stack 40 = .ok (.dup, 1) := by decide +kernel
theorem dX4_stack_41 : decode cX4_stack 41 = .ok (.ldc 105, 2) := by decide +kernel
theorem dX4_stack_43 : decode cX4_stack 43 = .ok (.invokespecial 58, 3) := by decide +kernel
theorem dX4_stack_46 : decode cX4_stack 46 = .ok (.athrow, 1) := by decide +kernel
theorem dX4_stack_47 : decode cX4_stack 47 = .ok (.aload_n 3, 1) := by decide +kernel
theorem dX4_stack_48 : decode cX4_stack 48 = .ok (.invokevirtual 107, 3) := by decide +kernel
theorem dX4_stack_51 : decode cX4_stack 51 = .ok (.iload_n 2, 1) := by decide +kernel
theorem dX4_stack_52 : decode cX4_stack 52 = .ok (.if_icmp .ge 13, 3) := by decide +kernel
theorem dX4_stack_55 : decode cX4_stack 55 = .ok (.new 54, 3) := by decide +kernel
theorem dX4_stack_58 : decode cX4_stack 58 = .ok (.dup, 1) := by decide +kernel
theorem dX4_stack_59 : decode cX4_stack 59 = .ok (.ldc 111, 2) := by decide +kernel
theorem dX4_stack_61 : decode cX4_stack 61 = .ok (.invokespecial 58, 3) := by decide +kernel
theorem dX4_stack_64 : decode cX4_stack 64 = .ok (.athrow, 1) := by decide +kernel
theorem dX4_stack_65 : decode cX4_stack 65 = .ok (.iconst 0, 1) := by decide +kernel
theorem dX4_stack_66 : decode cX4_stack 66 = .ok (.istore 4, 2) := by decide +kernel
theorem dX4_stack_68 : decode cX4_stack 68 = .ok (.iload 4, 2) := by decide +kernel
theorem dX4_stack_70 : decode cX4_stack 70 = .ok (.iload_n 2, 1) := by decide +kernel
theorem dX4_stack_71 : decode cX4_stack 71 = .ok (.if_icmp .ge 14, 3) := by decide +kernel
theorem dX4_stack_74 : decode cX4_stack 74 = .ok (.aload_n 3, 1) := by decide +kernel
theorem dX4_stack_75 : decode cX4_stack 75 = .ok (.iconst 0, 1) := by decide +kernel
theorem dX4_stack_76 : decode cX4_stack 76 = .ok (.invokevirtual 113, 3) := by decide +kernel
theorem dX4_stack_79 : decode cX4_stack 79 = .ok (.iinc 4 1, 3) := by decide +kernel
theorem dX4_stack_82 : decode cX4_stack 82 = .ok (.goto (-14), 3) := by decide +kernel
theorem dX4_stack_85 : decode cX4_stack 85 = .ok (.aload_n 0, 1) := by decide +kernel
theorem dX4_stack_86 : decode cX4_stack 86 = .ok (.getfield 21, 3) := by decide +kernel
theorem dX4_stack_89 : decode cX4_stack 89 = .ok (.aload_n 3, 1) := by decide +kernel
theorem dX4_stack_90 : decode cX4_stack 90 = .ok (.getfield 102, 3) := by decide +kernel
theorem dX4_stack_93 : decode cX4_stack 93 = .ok (.iload_n 2, 1) := by decide +kernel
theorem dX4_stack_94 : decode cX4_stack 94 = .ok (.ineg, 1) := by decide +kernel
theorem dX4_stack_95 : decode cX4_stack 95 = .ok (.invokevirtual 85, 3) := by decide +kernel
theorem dX4_stack_98 : decode cX4_stack 98 = .ok (.aload_n 3, 1) := by decide +kernel
theorem dX4_stack_99 : decode cX4_stack 99 = .ok (.getfield 116, 3) := by decide +kernel
theorem dX4_stack_102 : decode cX4_stack 102 = .ok (.ireturn, 1) := by decide +kernel
set_option maxRecDepth 20000 in
theorem ggX4_fire_X4_checkPile : GoodIn wsX4_fire wsX4_checkPile := goodIn_ca (goodIn_r _ [12, 13, 14, 3, 15, 16, 17, 11, 18, 41, 42, 43, 44, 45, 46, 47, 48, 49, 50, 51, 52, 53, 54] (by decide +kernel) (by decide +kernel)) (goodIn_sub (fun _ h => List.mem_cons_of_mem _ (List.mem_append_left _ (List.mem_append_right _ h))) (by decide +kernel))
set_option maxRecDepth 20000 in
theorem gX4_fire_X4_checkPile : GoodIn wsX4_fire (wsV RX4 99 RX4 yX4_checkPile wsX4_checkPile) := goodIn_app (goodIn_of _ (by decide +kernel)) ggX4_fire_X4_checkPile
set_option maxRecDepth 20000 in
theorem ggX4_fire_X4_checkArgument : GoodIn wsX4_fire wsX4_checkArgument := goodIn_ca (goodIn_r _ [21, 22, 23, 16, 17, 11, 18] (by decide +kernel) (by decide +kernel)) (goodIn_sub (fun _ h => List.mem_cons_of_mem _ (List.mem_append_right _ h)) (by decide +kernel))
set_option maxRecDepth 20000 in
theorem gX4_fire_X4_checkArgument : GoodIn wsX4_fire (va_wsS RX4 46 yX4_checkArgument wsX4_checkArgument) := goodIn_app (goodIn_of _ (by decide +kernel)) ggX4_fire_X4_checkArgument
set_option maxRecDepth 20000 in
theorem ggX4_fire_X1_takeTop : GoodIn wsX4_fire wsX1_takeTop := goodIn_r _ [28, 29, 30, 31, 32, 27, 33, 34, 55, 56, 57, 58] (by decide +kernel) (by decide +kernel)
set_option maxRecDepth 20000 in
theorem gX4_fire_X1_takeTop : GoodIn wsX4_fire (wsV RX4 121 RX1 yX1_takeTop wsX1_takeTop) := goodIn_app (goodIn_of _ (by decide +kernel)) ggX4_fire_X1_takeTop
set_option maxRecDepth 20000 in
theorem ggX4_fire_X6_add : GoodIn wsX4_fire wsX6_add := goodIn_r _ [39, 40, 59] (by decide +kernel) (by decide +kernel)
set_option maxRecDepth 20000 in
theorem gX4_fire_X6_add : GoodIn wsX4_fire (wsV RX4 85 RX6 yX6_add wsX6_add) := goodIn_app (goodIn_of _ (by decide +kernel)) ggX4_fire_X6_add
theorem dX4_fire_0 : decode cX4_fire 0 = .ok (.aload_n 0, 1) := by decide +kernel
theorem dX4_fire_1 : decode cX4_fire 1 = .ok (.iload_n 1, 1) := by decide +kernel
theorem dX4_fire_2 : decode cX4_fire 2 = .ok (.invokevirtual 99, 3) := by decide +kernel
theorem dX4_fire_5 : decode cX4_fire 5 = .ok (.iload_n 2, 1) := by decide +kernel
theorem dX4_fire_6 : decode cX4_fire 6 = .ok (.iconst 1, 1) := by decide +kernel
theorem dX4_fire_7 : decode cX4_fire 7 = .ok (.bipush 91, 2) := by decide +kernel
theorem dX4_fire_9 : decode cX4_fire 9 = .ok (.invokestatic 46, 3) := by decide +kernel
theorem dX4_fire_12 : decode cX4_fire 12 = .ok (.aload_n 0, 1) := by decide +kernel
theorem dX4_fire_13 : decode cX4_fire 13 = .ok (.getfield 36, 3) := by decide +kernel
theorem dX4_fire_16 : decode cX4_fire 16 = .ok (.getfield 61, 3) := by decide +kernel
theorem dX4_fire_19 : decode cX4_fire 19 = .ok (.iload_n 1, 1) := by decide +kernel
theorem dX4_fire_20 : decode cX4_fire 20 = .ok (.aaload, 1) := by decide +kernel
theorem dX4_fire_21 : decode cX4_fire 21 = .ok (.astore_n 3, 1) := by decide +kernel
theorem dX4_fire_22 : decode cX4_fire 22 = .ok (.aload_n 3, 1) := by decide +kernel
theorem dX4_fire_23 : decode cX4_fire 23 = .ok (.getfield 116, 3) := by decide +kernel
theorem dX4_fire_26 : decode cX4_fire 26 = .ok (.iload_n 2, 1) := by decide +kernel
theorem dX4_fire_27 : decode cX4_fire 27 = .ok (.if_icmp .ge 13, 3) := by decide +kernel
theorem dX4_fire_30 : decode cX4_fire 30 = .ok (.new 54, 3) := by decide +kernel
theorem dX4_fire_33 : decode cX4_fire 33 = .ok (.dup, 1) := by decide +kernel
theorem dX4_fire_34 : decode cX4_fire 34 = .ok (.ldc 119, 2) := by decide +kernel
theorem dX4_fire_36 : decode cX4_fire 36 = .ok (.invokespecial 58, 3) := by decide +kernel
theorem dX4_fire_39 : decode cX4_fire 39 = .ok (.athrow, 1) := by decide +kernel
theorem dX4_fire_40 : decode cX4_fire 40 = .ok (.iconst 0, 1) := by decide +kernel
theorem dX4_fire_41 : decode cX4_fire 41 = .ok (.istore 4, 2) := by decide +kernel
theorem dX4_fire_43 : decode cX4_fire 43 = .ok (.iconst 0, 1) := by decide +kernel
theorem dX4_fire_44 : decode cX4_fire 44 = .ok (.istore 5, 2) := by decide +kernel
theorem dX4_fire_46 : decode cX4_fire 46 = .ok (.iload 5, 2) := by decide +kernel
theorem dX4_fire_48 : decode cX4_fire 48 = .ok (.iload_n 2, 1) := by decide +kernel
theorem dX4_fire_49 : decode cX4_fire 49 = .ok (.if_icmp .ge 18, 3) := by decide +kernel
theorem dX4_fire_52 : decode cX4_fire 52 = .ok (.iload 4, 2) := by decide +kernel
theorem dX4_fire_54 : decode cX4_fire 54 = .ok (.aload_n 3, 1) := by decide +kernel
theorem dX4_fire_55 : decode cX4_fire 55 = .ok (.invokevirtual 121, 3) := by decide +kernel
theorem dX4_fire_58 : decode cX4_fire 58 = .ok (.iadd, 1) := by decide +kernel
theorem dX4_fire_59 : decode cX4_fire 59 = .ok (.istore 4, 2) := by decide +kernel
theorem dX4_fire_61 : decode cX4_fire 61 = .ok (.iinc 5 1, 3) := by decide +kernel
theorem dX4_fire_64 : decode cX4_fire 64 = .ok (.goto (-18), 3) := by decide +kernel
theorem dX4_fire_67 : decode cX4_fire 67 = .ok (.aload_n 0, 1) := by decide +kernel
theorem dX4_fire_68 : decode cX4_fire 68 = .ok (.getfield 25, 3) := by decide +kernel
theorem dX4_fire_71 : decode cX4_fire 71 = .ok (.aload_n 3, 1) := by decide +kernel
theorem dX4_fire_72 : decode cX4_fire 72 = .ok (.getfield 102, 3) := by decide +kernel
theorem dX4_fire_75 : decode cX4_fire 75 = .ok (.iload_n 2, 1) := by decide +kernel
theorem dX4_fire_76 : decode cX4_fire 76 = .ok (.invokevirtual 85, 3) := by decide +kernel
theorem dX4_fire_79 : decode cX4_fire 79 = .ok (.iload 4, 2) := by decide +kernel
theorem dX4_fire_81 : decode cX4_fire 81 = .ok (.ireturn, 1) := by decide +kernel
set_option maxRecDepth 20000 in
theorem ggX4_scour_X4_checkPile : GoodIn wsX4_scour wsX4_checkPile := goodIn_ca (goodIn_r _ [7, 8, 9, 1, 10, 11, 12, 6, 13, 45, 46, 47, 48, 49, 50, 51, 52, 53, 54, 55, 56, 57, 58] (by decide +kernel) (by decide +kernel)) (goodIn_sub (fun _ h => List.mem_cons_of_mem _ (List.mem_append_right _ h)) (by decide +kernel))
set_option maxRecDepth 20000 in
theorem gX4_scour_X4_checkPile : GoodIn wsX4_scour (wsV RX4 99 RX4 yX4_checkPile wsX4_checkPile) := goodIn_app (goodIn_of _ (by decide +kernel)) ggX4_scour_X4_checkPile
set_option maxRecDepth 20000 in
theorem ggX4_scour_X1_scourBare : GoodIn wsX4_scour wsX1_scourBare := goodIn_r _ [18, 19, 20, 21, 22, 23, 24, 25, 26, 17, 27, 28, 29, 30, 31, 32, 33, 34, 35, 36, 37, 38, 39, 40, 41, 42, 43, 44, 59, 60, 61, 62, 63, 64, 65, 66] (by decide +kernel) (by decide +kernel)
set_option maxRecDepth 20000 in
theorem gX4_scour_X1_scourBare : GoodIn wsX4_scour (wsV RX4 124 RX1 yX1_scourBare wsX1_scourBare) := goodIn_app (goodIn_of _ (by decide +kernel)) ggX4_scour_X1_scourBare
theorem dX4_scour_0 : decode cX4_scour 0 = .ok (.aload_n 0, 1) := by decide +kernel
theorem dX4_scour_1 : decode cX4_scour 1 = .ok (.iload_n 1, 1) := by decide +kernel
theorem dX4_scour_2 : decode cX4_scour 2 = .ok (.invokevirtual 99, 3) := by decide +kernel
theorem dX4_scour_5 : decode cX4_scour 5 = .ok (.aload_n 0, 1) := by decide +kernel
theorem dX4_scour_6 : decode cX4_scour 6 = .ok (.getfield 36, 3) := by decide +kernel
theorem dX4_scour_9 : decode cX4_scour 9 = .ok (.getfield 61, 3) := by decide +kernel
theorem dX4_scour_12 : decode cX4_scour 12 = .ok (.iload_n 1, 1) := by decide +kernel
theorem dX4_scour_13 : decode cX4_scour 13 = .ok (.aaload, 1) := by decide +kernel
theorem dX4_scour_14 : decode cX4_scour 14 = .ok (.invokevirtual 124, 3) := by decide +kernel
theorem dX4_scour_17 : decode cX4_scour 17 = .ok (.ireturn, 1) := by decide +kernel
set_option maxRecDepth 20000 in
theorem ggX4_inspect_X4_checkPile : GoodIn wsX4_inspect wsX4_checkPile := goodIn_ca (goodIn_r _ [10, 11, 12, 1, 13, 14, 15, 9, 16, 38, 39, 40, 41, 42, 43, 44, 45, 46, 47, 48, 49, 50, 51] (by decide +kernel) (by decide +kernel)) (goodIn_sub (fun _ h => List.mem_cons_of_mem _ (List.mem_append_right _ h)) (by decide +kernel))
set_option maxRecDepth 20000 in
theorem gX4_inspect_X4_checkPile : GoodIn wsX4_inspect (wsV RX4 99 RX4 yX4_checkPile wsX4_checkPile) := goodIn_app (goodIn_of _ (by decide +kernel)) ggX4_inspect_X4_checkPile
set_option maxRecDepth 20000 in
theorem ggX4_inspect_X1_throwAway : GoodIn wsX4_inspect wsX1_throwAway := goodIn_r _ [21, 22, 23, 24, 25, 20, 26, 27, 28, 29, 30, 31, 52, 53, 54, 55] (by decide +kernel) (by decide +kernel)
set_option maxRecDepth 20000 in
theorem gX4_inspect_X1_throwAway : GoodIn wsX4_inspect (wsV RX4 127 RX1 yX1_throwAway wsX1_throwAway) := goodIn_app (goodIn_of _ (by decide +kernel)) ggX4_inspect_X1_throwAway
set_option maxRecDepth 20000 in
theorem ggX4_inspect_X6_add : GoodIn wsX4_inspect wsX6_add := goodIn_r _ [36, 37, 56] (by decide +kernel) (by decide +kernel)
set_option maxRecDepth 20000 in
theorem gX4_inspect_X6_add : GoodIn wsX4_inspect (wsV RX4 85 RX6 yX6_add wsX6_add) := goodIn_app (goodIn_of _ (by decide +kernel)) ggX4_inspect_X6_add
theorem dX4_inspect_0 : decode cX4_inspect 0 = .ok (.aload_n 0, 1) := by decide +kernel
theorem dX4_inspect_1 : decode cX4_inspect 1 = .ok (.iload_n 1, 1) := by decide +kernel
theorem dX4_inspect_2 : decode cX4_inspect 2 = .ok (.invokevirtual 99, 3) := by decide +kernel
theorem dX4_inspect_5 : decode cX4_inspect 5 = .ok (.aload_n 0, 1) := by decide +kernel
theorem dX4_inspect_6 : decode cX4_inspect 6 = .ok (.getfield 36, 3) := by decide +kernel
theorem dX4_inspect_9 : decode cX4_inspect 9 = .ok (.getfield 61, 3) := by decide +kernel
theorem dX4_inspect_12 : decode cX4_inspect 12 = .ok (.iload_n 1, 1) := by decide +kernel
theorem dX4_inspect_13 : decode cX4_inspect 13 = .ok (.aaload, 1) := by decide +kernel
theorem dX4_inspect_14 : decode cX4_inspect 14 = .ok (.astore_n 2, 1) := by decide +kernel
theorem dX4_inspect_15 : decode cX4_inspect 15 = .ok (.aload_n 2, 1) := by decide +kernel
theorem dX4_inspect_16 : decode cX4_inspect 16 = .ok (.aload_n 0, 1) := by decide +kernel
theorem dX4_inspect_17 : decode cX4_inspect 17 = .ok (.getfield 36, 3) := by decide +kernel
theorem dX4_inspect_20 : decode cX4_inspect 20 = .ok (.getfield 96, 3) := by decide +kernel
theorem dX4_inspect_23 : decode cX4_inspect 23 = .ok (.invokevirtual 127, 3) := by decide +kernel
theorem dX4_inspect_26 : decode cX4_inspect 26 = .ok (.istore_n 3, 1) := by decide +kernel
theorem dX4_inspect_27 : decode cX4_inspect 27 = .ok (.aload_n 0, 1) := by decide +kernel
theorem dX4_inspect_28 : decode cX4_inspect 28 = .ok (.getfield 28, 3) := by decide +kernel
theorem dX4_inspect_31 : decode cX4_inspect 31 = .ok (.aload_n 2, 1) := by decide +kernel
theorem dX4_inspect_32 : decode cX4_inspect 32 = .ok (.getfield 102, 3) := by decide +kernel
theorem dX4_inspect_35 : decode cX4_inspect 35 = .ok (.iload_n 3, 1) := by decide +kernel
theorem dX4_inspect_36 : decode cX4_inspect 36 = .ok (.invokevirtual 85, 3) := by decide +kernel
theorem dX4_inspect_39 : decode cX4_inspect 39 = .ok (.iload_n 3, 1) := by decide +kernel
theorem dX4_inspect_40 : decode cX4_inspect 40 = .ok (.ireturn, 1) := by decide +kernel
set_option maxRecDepth 20000 in
theorem ggX4_shift_X4_checkPile : GoodIn wsX4_shift wsX4_checkPile := goodIn_ca (goodIn_r _ [15, 16, 17, 3, 18, 19, 20, 14, 21, 48, 49, 50, 51, 52, 53, 54, 55, 56, 57, 58, 59, 60, 61] (by decide +kernel) (by decide +kernel)) (goodIn_sub (fun _ h => List.mem_cons_of_mem _ (List.mem_append_right _ h)) (by decide +kernel))
set_option maxRecDepth 20000 in
theorem gX4_shift_X4_checkPile : GoodIn wsX4_shift (wsV RX4 99 RX4 yX4_checkPile wsX4_checkPile) := goodIn_app (goodIn_of _ (by decide +kernel)) ggX4_shift_X4_checkPile
set_option maxRecDepth 20000 in
theorem ggX4_shift_X1_spare : GoodIn wsX4_shift wsX1_spare := goodIn_r _ [26, 27, 28, 29, 62, 63, 64, 65, 66, 67, 68, 69] (by decide +kernel) (by decide +kernel)
set_option maxRecDepth 20000 in
theorem gX4_shift_X1_spare : GoodIn wsX4_shift (wsV RX4 107 RX1 yX1_spare wsX1_spare) := goodIn_app (goodIn_of _ (by decide +kernel)) ggX4_shift_X1_spare
set_option maxRecDepth 20000 in
theorem ggX4_shift_X1_takeTop : GoodIn wsX4_shift wsX1_takeTop := goodIn_r _ [33, 29, 34, 35, 36, 25, 37, 38, 62, 63, 64, 65] (by decide +kernel) (by decide +kernel)
set_option maxRecDepth 20000 in
theorem gX4_shift_X1_takeTop : GoodIn wsX4_shift (wsV RX4 121 RX1 yX1_takeTop wsX1_takeTop) := goodIn_app (goodIn_of _ (by decide +kernel)) ggX4_shift_X1_takeTop
set_option maxRecDepth 20000 in
theorem ggX4_shift_X1_put : GoodIn wsX4_shift wsX1_put := goodIn_r _ [42, 29, 43, 23, 24, 25, 26, 27, 28, 44, 45, 46, 47, 38, 62, 63, 64, 65, 66, 67, 68, 69] (by decide +kernel) (by decide +kernel)
set_option maxRecDepth 20000 in
theorem gX4_shift_X1_put : GoodIn wsX4_shift (wsV RX4 113 RX1 yX1_put wsX1_put) := goodIn_app (goodIn_of _ (by decide +kernel)) ggX4_shift_X1_put
theorem dX4_shift_0 : decode cX4_shift 0 = .ok (.aload_n 0, 1) := by decide +kernel
theorem dX4_shift_1 : decode cX4_shift 1 = .ok (.iload_n 1, 1) := by decide +kernel
theorem dX4_shift_2 : decode cX4_shift 2 = .ok (.invokevirtual 99, 3) := by decide +kernel
theorem dX4_shift_5 : decode cX4_shift 5 = .ok (.aload_n 0, 1) := by decide +kernel
theorem dX4_shift_6 : decode cX4_shift 6 = .ok (.iload_n 2, 1) := by decide +kernel
theorem dX4_shift_7 : decode cX4_shift 7 = .ok (.invokevirtual 99, 3) := by decide +kernel
theorem dX4_shift_10 : decode cX4_shift 10 = .ok (.iload_n 1, 1) := by decide +kernel
theorem dX4_shift_11 : decode cX4_shift 11 = .ok (.iload_n 2, 1) := by decide +kernel
theorem dX4_shift_12 : decode cX4_shift 12 = .ok (.if_icmp .ne 13, 3) := by decide +kernel
theorem dX4_shift_15 : decode cX4_shift 15 = .ok (.new 130, 3) := by decide +kernel
theorem dX4_shift_18 : decode cX4_shift 18 = .ok (.dup, 1) := by decide +kernel
theorem dX4_shift_19 : decode cX4_shift 19 = .ok (.ldc 132, 2) := by decide +kernel
theorem dX4_shift_21 : decode cX4_shift 21 = .ok (.invokespecial 134, 3) := by decide +kernel
theorem dX4_shift_24 : decode cX4_shift 24 = .ok (.athrow, 1) := by decide +kernel
theorem dX4_shift_25 : decode cX4_shift 25 = .ok (.aload_n 0, 1) := by decide +kernel
theorem dX4_shift_26 : decode cX4_shift 26 = .ok (.getfield 36, 3) := by decide +kernel
theorem dX4_shift_29 : decode cX4_shift 29 = .ok (.getfield 61, 3) := by decide +kernel
theorem dX4_shift_32 : decode cX4_shift 32 = .ok (.iload_n 1, 1) := by decide +kernel
theorem dX4_shift_33 : decode cX4_shift 33 = .ok (.aaload, 1) := by decide +kernel
theorem dX4_shift_34 : decode cX4_shift 34 = .ok (.astore_n 3, 1) := by decide +kernel
theorem dX4_shift_35 : decode cX4_shift 35 = .ok (.aload_n 0, 1) := by decide +kernel
theorem dX4_shift_36 : decode cX4_shift 36 = .ok (.getfield 36, 3) := by decide +kernel
theorem dX4_shift_39 : decode cX4_shift 39 = .ok (.getfield 61, 3) := by decide +kernel
theorem dX4_shift_42 : decode cX4_shift 42 = .ok (.iload_n 2, 1) := by decide +kernel
theorem dX4_shift_43 : decode cX4_shift 43 = .ok (.aaload, 1) := by decide +kernel
theorem dX4_shift_44 : decode cX4_shift 44 = .ok (.astore 4, 2) := by decide +kernel
theorem dX4_shift_46 : decode cX4_shift 46 = .ok (.aload_n 3, 1) := by decide +kernel
theorem dX4_shift_47 : decode cX4_shift 47 = .ok (.getfield 102, 3) := by decide +kernel
theorem dX4_shift_50 : decode cX4_shift 50 = .ok (.aload 4, 2) := by decide +kernel
theorem dX4_shift_52 : decode cX4_shift 52 = .ok (.getfield 102, 3) := by decide +kernel
theorem dX4_shift_55 : decode cX4_shift 55 = .ok (.if_icmp .eq 13, 3) := by decide +kernel
theorem dX4_shift_58 : decode cX4_shift 58 = .ok (.new 130, 3) := by decide +kernel
theorem dX4_shift_61 : decode cX4_shift 61 = .ok (.dup, 1) := by decide +kernel
theorem dX4_shift_62 : decode cX4_shift 62 = .ok (.ldc 135, 2) := by decide +kernel
theorem dX4_shift_64 : decode cX4_shift 64 = .ok (.invokespecial 134, 3) := by decide +kernel
theorem dX4_shift_67 : decode cX4_shift 67 = .ok (.athrow, 1) := by decide +kernel
theorem dX4_shift_68 : decode cX4_shift 68 = .ok (.aload_n 3, 1) := by decide +kernel
theorem dX4_shift_69 : decode cX4_shift 69 = .ok (.getfield 116, 3) := by decide +kernel
theorem dX4_shift_72 : decode cX4_shift 72 = .ok (.aload 4, 2) := by decide +kernel
theorem dX4_shift_74 : decode cX4_shift 74 = .ok (.invokevirtual 107, 3) := by decide +kernel
theorem dX4_shift_77 : decode cX4_shift 77 = .ok (.invokestatic 137, 3) := by decide +kernel
theorem dX4_shift_80 : decode cX4_shift 80 = .ok (.istore 5, 2) := by decide +kernel
theorem dX4_shift_82 : decode cX4_shift 82 = .ok (.iconst 0, 1) := by decide +kernel
theorem dX4_shift_83 : decode cX4_shift 83 = .ok (.istore 6, 2) := by decide +kernel
theorem dX4_shift_85 : decode cX4_shift 85 = .ok (.iload 6, 2) := by decide +kernel
theorem dX4_shift_87 : decode cX4_shift 87 = .ok (.iload 5, 2) := by decide +kernel
theorem dX4_shift_89 : decode cX4_shift 89 = .ok (.if_icmp .ge 18, 3) := by decide +kernel
theorem dX4_shift_92 : decode cX4_shift 92 = .ok (.aload 4, 2) := by decide +kernel
theorem dX4_shift_94 : decode cX4_shift 94 = .ok (.aload_n 3, 1) := by decide +kernel
theorem dX4_shift_95 : decode cX4_shift 95 = .ok (.invokevirtual 121, 3) := by decide +kernel
theorem dX4_shift_98 : decode cX4_shift 98 = .ok (.invokevirtual 113, 3) := by decide +kernel
theorem dX4_shift_101 : decode cX4_shift 101 = .ok (.iinc 6 1, 3) := by decide +kernel
theorem dX4_shift_104 : decode cX4_shift 104 = .ok (.goto (-19), 3) := by decide +kernel
theorem dX4_shift_107 : decode cX4_shift 107 = .ok (.iload 5, 2) := by decide +kernel
theorem dX4_shift_109 : decode cX4_shift 109 = .ok (.ireturn, 1) := by decide +kernel
set_option maxRecDepth 20000 in
theorem ggX4_gather_X6_all : GoodIn wsX4_gather wsX6_all := goodIn_r _ [8, 9, 32] (by decide +kernel) (by decide +kernel)
set_option maxRecDepth 20000 in
theorem gX4_gather_X6_all : GoodIn wsX4_gather (wsV RX4 146 RX6 yX6_all wsX6_all) := goodIn_app (goodIn_of _ (by decide +kernel)) ggX4_gather_X6_all
set_option maxRecDepth 20000 in
theorem ggX4_gather_X6_of : GoodIn wsX4_gather wsX6_of := goodIn_r _ [13, 9, 32] (by decide +kernel) (by decide +kernel)
set_option maxRecDepth 20000 in
theorem gX4_gather_X6_of : GoodIn wsX4_gather (wsV RX4 89 RX6 yX6_of wsX6_of) := goodIn_app (goodIn_of _ (by decide +kernel)) ggX4_gather_X6_of
set_option maxRecDepth 20000 in
theorem ggX4_gather_X6_add : GoodIn wsX4_gather wsX6_add := goodIn_r _ [17, 9, 32] (by decide +kernel) (by decide +kernel)
set_option maxRecDepth 20000 in
theorem gX4_gather_X6_add : GoodIn wsX4_gather (wsV RX4 85 RX6 yX6_add wsX6_add) := goodIn_app (goodIn_of _ (by decide +kernel)) ggX4_gather_X6_add
theorem dX4_gather_0 : decode cX4_gather 0 = .ok (.aload_n 0, 1) := by decide +kernel
theorem dX4_gather_1 : decode cX4_gather 1 = .ok (.getfield 36, 3) := by decide +kernel
theorem dX4_gather_4 : decode cX4_gather 4 = .ok (.getfield 143, 3) := by decide +kernel
theorem dX4_gather_7 : decode cX4_gather 7 = .ok (.invokevirtual 146, 3) := by decide +kernel
theorem dX4_gather_10 : decode cX4_gather 10 = .ok (.istore_n 1, 1) := by decide +kernel
theorem dX4_gather_11 : decode cX4_gather 11 = .ok (.iconst 0, 1) := by decide +kernel
theorem dX4_gather_12 : decode cX4_gather 12 = .ok (.istore_n 2, 1) := by decide +kernel
theorem dX4_gather_13 : decode cX4_gather 13 = .ok (.iload_n 2, 1) := by decide +kernel
theorem dX4_gather_14 : decode cX4_gather 14 = .ok (.iconst 5, 1) := by decide +kernel
theorem dX4_gather_15 : decode cX4_gather 15 = .ok (.if_icmp .ge 43, 3) := by decide +kernel
theorem dX4_gather_18 : decode cX4_gather 18 = .ok (.aload_n 0, 1) := by decide +kernel
theorem dX4_gather_19 : decode cX4_gather 19 = .ok (.getfield 36, 3) := by decide +kernel
theorem dX4_gather_22 : decode cX4_gather 22 = .ok (.getfield 143, 3) := by decide +kernel
theorem dX4_gather_25 : decode cX4_gather 25 = .ok (.iload_n 2, 1) := by decide +kernel
theorem dX4_gather_26 : decode cX4_gather 26 = .ok (.invokevirtual 89, 3) := by decide +kernel
theorem dX4_gather_29 : decode cX4_gather 29 = .ok (.istore_n 3, 1) := by decide +kernel
theorem dX4_gather_30 : decode cX4_gather 30 = .ok (.aload_n 0, 1) := by decide +kernel
theorem dX4_gather_31 : decode cX4_gather 31 = .ok (.getfield 21, 3) := by decide +kernel
theorem dX4_gather_34 : decode cX4_gather 34 = .ok (.iload_n 2, 1) := by decide +kernel
theorem dX4_gather_35 : decode cX4_gather 35 = .ok (.iload_n 3, 1) := by decide +kernel
theorem dX4_gather_36 : decode cX4_gather 36 = .ok (.invokevirtual 85, 3) := by decide +kernel
theorem dX4_gather_39 : decode cX4_gather 39 = .ok (.aload_n 0, 1) := by decide +kernel
theorem dX4_gather_40 : decode cX4_gather 40 = .ok (.getfield 36, 3) := by decide +kernel
theorem dX4_gather_43 : decode cX4_gather 43 = .ok (.getfield 143, 3) := by decide +kernel
theorem dX4_gather_46 : decode cX4_gather 46 = .ok (.iload_n 2, 1) := by decide +kernel
theorem dX4_gather_47 : decode cX4_gather 47 = .ok (.iload_n 3, 1) := by decide +kernel
theorem dX4_gather_48 : decode cX4_gather 48 = .ok (.ineg, 1) := by decide +kernel
theorem dX4_gather_49 : decode cX4_gather 49 = .ok (.invokevirtual 85, 3) := by decide +kernel
theorem dX4_gather_52 : decode cX4_gather 52 = .ok (.iinc 2 1, 3) := by decide +kernel
theorem dX4_gather_55 : decode cX4_gather 55 = .ok (.goto (-42), 3) := by decide +kernel
theorem dX4_gather_58 : decode cX4_gather 58 = .ok (.iload_n 1, 1) := by decide +kernel
theorem dX4_gather_59 : decode cX4_gather 59 = .ok (.ireturn, 1) := by decide +kernel
set_option maxRecDepth 20000 in
theorem ggX4_chase_X4_checkCat : GoodIn wsX4_chase wsX4_checkCat := goodIn_ca (goodIn_r _ [8, 9, 10, 1, 11, 12, 13, 7, 14, 15, 16, 17, 18, 19, 20, 21, 22, 23, 24, 25, 26, 27, 28] (by decide +kernel) (by decide +kernel)) (goodIn_sub (fun _ h => List.mem_cons_of_mem _ (List.mem_append_right _ h)) (by decide +kernel))
set_option maxRecDepth 20000 in
theorem gX4_chase_X4_checkCat : GoodIn wsX4_chase (wsV RX4 149 RX4 yX4_checkCat wsX4_checkCat) := goodIn_app (goodIn_of _ (by decide +kernel)) ggX4_chase_X4_checkCat
theorem dX4_chase_0 : decode cX4_chase 0 = .ok (.aload_n 0, 1) := by decide +kernel
theorem dX4_chase_1 : decode cX4_chase 1 = .ok (.iload_n 1, 1) := by decide +kernel
theorem dX4_chase_2 : decode cX4_chase 2 = .ok (.invokevirtual 149, 3) := by decide +kernel
theorem dX4_chase_5 : decode cX4_chase 5 = .ok (.aload_n 0, 1) := by decide +kernel
theorem dX4_chase_6 : decode cX4_chase 6 = .ok (.getfield 36, 3) := by decide +kernel
theorem dX4_chase_9 : decode cX4_chase 9 = .ok (.getfield 76, 3) := by decide +kernel
theorem dX4_chase_12 : decode cX4_chase 12 = .ok (.iload_n 1, 1) := by decide +kernel
theorem dX4_chase_13 : decode cX4_chase 13 = .ok (.aaload, 1) := by decide +kernel
theorem dX4_chase_14 : decode cX4_chase 14 = .ok (.astore_n 2, 1) := by decide +kernel
theorem dX4_chase_15 : decode cX4_chase 15 = .ok (.aload_n 2, 1) := by decide +kernel
theorem dX4_chase_16 : decode cX4_chase 16 = .ok (.getfield 152, 3) := by decide +kernel
theorem dX4_chase_19 : decode cX4_chase 19 = .ok (.istore_n 3, 1) := by decide +kernel
theorem dX4_chase_20 : decode cX4_chase 20 = .ok (.aload_n 2, 1) := by decide +kernel
theorem dX4_chase_21 : decode cX4_chase 21 = .ok (.iconst (-1), 1) := by decide +kernel
theorem dX4_chase_22 : decode cX4_chase 22 = .ok (.putfield 152, 3) := by decide +kernel
theorem dX4_chase_25 : decode cX4_chase 25 = .ok (.iload_n 3, 1) := by decide +kernel
theorem dX4_chase_26 : decode cX4_chase 26 = .ok (.ireturn, 1) := by decide +kernel
set_option maxRecDepth 20000 in
theorem ggX4_about_X4_checkPile : GoodIn wsX4_about wsX4_checkPile := goodIn_ca (goodIn_r _ [15, 1, 2, 3, 16, 17, 18, 14, 19, 69, 70, 71, 72, 73, 74, 75, 76, 77, 78, 79, 80, 81, 82] (by decide +kernel) (by decide +kernel)) (goodIn_sub (fun _ h => List.mem_cons_of_mem _ (List.mem_append_right _ h)) (by decide +kernel))
set_option maxRecDepth 20000 in
theorem gX4_about_X4_checkPile : GoodIn wsX4_about (wsV RX4 99 RX4 yX4_checkPile wsX4_checkPile) := goodIn_app (goodIn_of _ (by decide +kernel)) ggX4_about_X4_checkPile
set_option maxRecDepth 20000 in
theorem ggX4_about_X2_layersBegun : GoodIn wsX4_about wsX2_layersBegun := goodIn_r _ [24, 25, 26, 87, 88, 89, 90] (by decide +kernel) (by decide +kernel)
set_option maxRecDepth 20000 in
theorem gX4_about_X2_layersBegun : GoodIn wsX4_about (wsV RX4 165 RX2 yX2_layersBegun wsX2_layersBegun) := goodIn_app (goodIn_of _ (by decide +kernel)) ggX4_about_X2_layersBegun
set_option maxRecDepth 20000 in
theorem ggX4_about_X2_layersFull : GoodIn wsX4_about wsX2_layersFull := goodIn_r _ [30, 25, 26, 87, 88, 89, 90] (by decide +kernel) (by decide +kernel)
set_option maxRecDepth 20000 in
theorem gX4_about_X2_layersFull : GoodIn wsX4_about (wsV RX4 168 RX2 yX2_layersFull wsX2_layersFull) := goodIn_app (goodIn_of _ (by decide +kernel)) ggX4_about_X2_layersFull
set_option maxRecDepth 20000 in
theorem ggX4_about_X1_bareBalls : GoodIn wsX4_about wsX1_bareBalls := goodIn_r _ [35, 36, 37, 38, 39, 34, 40, 41, 42, 43, 44, 23, 45, 46, 47, 83, 84, 85, 86, 87, 88, 89, 90] (by decide +kernel) (by decide +kernel)
set_option maxRecDepth 20000 in
theorem gX4_about_X1_bareBalls : GoodIn wsX4_about (wsV RX4 171 RX1 yX1_bareBalls wsX1_bareBalls) := goodIn_app (goodIn_of _ (by decide +kernel)) ggX4_about_X1_bareBalls
set_option maxRecDepth 20000 in
theorem ggX4_about_X1_rustyBalls : GoodIn wsX4_about wsX1_rustyBalls := goodIn_r _ [51, 36, 52, 53, 54, 34, 55, 56, 83, 84, 85, 86] (by decide +kernel) (by decide +kernel)
set_option maxRecDepth 20000 in
theorem gX4_about_X1_rustyBalls : GoodIn wsX4_about (wsV RX4 174 RX1 yX1_rustyBalls wsX1_rustyBalls) := goodIn_app (goodIn_of _ (by decide +kernel)) ggX4_about_X1_rustyBalls
set_option maxRecDepth 20000 in
theorem ggX4_about_X1_greatestRust : GoodIn wsX4_about wsX1_greatestRust := goodIn_r _ [60, 36, 61, 62, 63, 64, 52, 53, 54, 34, 55, 56, 83, 84, 85, 86] (by decide +kernel) (by decide +kernel)
set_option maxRecDepth 20000 in
theorem gX4_about_X1_greatestRust : GoodIn wsX4_about (wsV RX4 177 RX1 yX1_greatestRust wsX1_greatestRust) := goodIn_app (goodIn_of _ (by decide +kernel)) ggX4_about_X1_greatestRust
set_option maxRecDepth 20000 in
theorem ggX4_about_X1_allRust : GoodIn wsX4_about wsX1_allRust := goodIn_r _ [68, 36, 52, 53, 54, 34, 55, 56, 83, 84, 85, 86] (by decide +kernel) (by decide +kernel)
set_option maxRecDepth 20000 in
theorem gX4_about_X1_allRust : GoodIn wsX4_about (wsV RX4 180 RX1 yX1_allRust wsX1_allRust) := goodIn_app (goodIn_of _ (by decide +kernel)) ggX4_about_X1_allRust
theorem dX4_about_0 : decode cX4_about 0 = .ok (.aload_n 0, 1) := by decide +kernel
theorem dX4_about_1 : decode cX4_about 1 = .ok (.iload_n 1, 1) := by decide +kernel
theorem dX4_about_2 : decode cX4_about 2 = .ok (.invokevirtual 99, 3) := by decide +kernel
theorem dX4_about_5 : decode cX4_about 5 = .ok (.aload_n 0, 1) := by decide +kernel
theorem dX4_about_6 : decode cX4_about 6 = .ok (.getfield 36, 3) := by decide +kernel
theorem dX4_about_9 : decode cX4_about 9 = .ok (.getfield 61, 3) := by decide +kernel
theorem dX4_about_12 : decode cX4_about 12 = .ok (.iload_n 1, 1) := by decide +kernel
theorem dX4_about_13 : decode cX4_about 13 = .ok (.aaload, 1) := by decide +kernel
theorem dX4_about_14 : decode cX4_about 14 = .ok (.astore_n 3, 1) := by decide +kernel
theorem dX4_about_15 : decode cX4_about 15 = .ok (.iload_n 2, 1) := by decide +kernel
theorem dX4_about_16 : decode cX4_about 16 = .ok (.tableswitch 133 0 9 #[56, 61, 69, 74, 82, 94, 106, 111, 123, 128], 56) := by decide +kernel
theorem dX4_about_72 : decode cX4_about 72 = .ok (.aload_n 3, 1) := by decide +kernel
theorem dX4_about_73 : decode cX4_about 73 = .ok (.getfield 102, 3) := by decide +kernel
theorem dX4_about_76 : decode cX4_about 76 = .ok (.ireturn, 1) := by decide +kernel
theorem dX4_about_77 : decode cX4_about 77 = .ok (.aload_n 3, 1) := by decide +kernel
theorem dX4_about_78 : decode cX4_about 78 = .ok (.getfield 155, 3) := by decide +kernel
theorem dX4_about_81 : decode cX4_about 81 = .ok (.getfield 159, 3) := by decide +kernel
theorem dX4_about_84 : decode cX4_about 84 = .ok (.ireturn, 1) := by decide +kernel
theorem dX4_about_85 : decode cX4_about 85 = .ok (.aload_n 3, 1) := by decide +kernel
theorem dX4_about_86 : decode cX4_about 86 = .ok (.getfield 116, 3) := by decide +kernel
theorem dX4_about_89 : decode cX4_about 89 = .ok (.ireturn, 1) := by decide +kernel
theorem dX4_about_90 : decode cX4_about 90 = .ok (.aload_n 3, 1) := by decide +kernel
theorem dX4_about_91 : decode cX4_about 91 = .ok (.getfield 155, 3) := by decide +kernel
theorem dX4_about_94 : decode cX4_about 94 = .ok (.getfield 162, 3) := by decide +kernel
theorem dX4_about_97 : decode cX4_about 97 = .ok (.ireturn, 1) := by decide +kernel
theorem dX4_about_98 : decode cX4_about 98 = .ok (.aload_n 3, 1) := by decide +kernel
theorem dX4_about_99 : decode cX4_about 99 = .ok (.getfield 155, 3) := by decide +kernel
theorem dX4_about_102 : decode cX4_about 102 = .ok (.aload_n 3, 1) := by decide +kernel
theorem dX4_about_103 : decode cX4_about 103 = .ok (.getfield 116, 3) := by decide +kernel
theorem dX4_about_106 : decode cX4_about 106 = .ok (.invokevirtual 165, 3) := by decide +kernel
theorem dX4_about_109 : decode cX4_about 109 = .ok (.ireturn, 1) := by decide +kernel
theorem dX4_about_110 : decode cX4_about 110 = .ok (.aload_n 3, 1) := by decide +kernel
theorem dX4_about_111 : decode cX4_about 111 = .ok (.getfield 155, 3) := by decide +kernel
theorem dX4_about_114 : decode cX4_about 114 = .ok (.aload_n 3, 1) := by decide +kernel
theorem dX4_about_115 : decode cX4_about 115 = .ok (.getfield 116, 3) := by decide +kernel
theorem dX4_about_118 : decode cX4_about 118 = .ok (.invokevirtual 168, 3) := by decide +kernel
theorem dX4_about_121 : decode cX4_about 121 = .ok (.ireturn, 1) := by decide +kernel
theorem dX4_about_122 : decode cX4_about 122 = .ok (.aload_n 3, 1) := by decide +kernel
theorem dX4_about_123 : decode cX4_about 123 = .ok (.invokevirtual 171, 3) := by decide +kernel
theorem dX4_about_126 : decode cX4_about 126 = .ok (.ireturn, 1) := by decide +kernel
theorem dX4_about_127 : decode cX4_about 127 = .ok (.aload_n 3, 1) := by decide +kernel
theorem dX4_about_128 : decode cX4_about 128 = .ok (.aload_n 0, 1) := by decide +kernel
theorem dX4_about_129 : decode cX4_about 129 = .ok (.getfield 36, 3) := by decide +kernel
theorem dX4_about_132 : decode cX4_about 132 = .ok (.getfield 96, 3) := by decide +kernel
theorem dX4_about_135 : decode cX4_about 135 = .ok (.invokevirtual 174, 3) := by decide +kernel
theorem dX4_about_138 : decode cX4_about 138 = .ok (.ireturn, 1) := by decide +kernel
theorem dX4_about_139 : decode cX4_about 139 = .ok (.aload_n 3, 1) := by decide +kernel
theorem dX4_about_140 : decode cX4_about 140 = .ok (.invokevirtual 177, 3) := by decide +kernel
theorem dX4_about_143 : decode cX4_about 143 = .ok (.ireturn, 1) := by decide +kernel
theorem dX4_about_144 : decode cX4_about 144 = .ok (.aload_n 3, 1) := by decide +kernel
theorem dX4_about_145 : decode cX4_about 145 = .ok (.invokevirtual 180, 3) := by decide +kernel
theorem dX4_about_148 : decode cX4_about 148 = .ok (.ireturn, 1) := by decide +kernel
theorem dX4_about_149 : decode cX4_about 149 = .ok (.new 183, 3) := by decide +kernel
theorem dX4_about_152 : decode cX4_about 152 = .ok (.dup, 1) := by decide +kernel
theorem dX4_about_153 : decode cX4_about 153 = .ok (.ldc 185, 2) := by decide +kernel
theorem dX4_about_155 : decode cX4_about 155 = .ok (.invokespecial 187, 3) := by decide +kernel
theorem dX4_about_158 : decode cX4_about 158 = .ok (.athrow, 1) := by decide +kernel
set_option maxRecDepth 20000 in
theorem ggX4_ball_X4_checkPile : GoodIn wsX4_ball wsX4_checkPile := goodIn_ca (goodIn_r _ [11, 1, 2, 3, 12, 13, 14, 10, 15, 77, 78, 79, 80, 81, 82, 83, 84, 85, 86, 87, 88, 89, 90] (by decide +kernel) (by decide +kernel)) (goodIn_sub (fun _ h => List.mem_cons_of_mem _ (List.mem_append_right _ h)) (by decide +kernel))
set_option maxRecDepth 20000 in
theorem gX4_ball_X4_checkPile : GoodIn wsX4_ball (wsV RX4 99 RX4 yX4_checkPile wsX4_checkPile) := goodIn_app (goodIn_of _ (by decide +kernel)) ggX4_ball_X4_checkPile
set_option maxRecDepth 20000 in
theorem ggX4_ball_X4_isOutside : GoodIn wsX4_ball wsX4_isOutside := goodIn_r _ [15] (by decide +kernel) (by decide +kernel)
set_option maxRecDepth 20000 in
theorem gX4_ball_X4_isOutside : GoodIn wsX4_ball (va_wsS RX4 188 yX4_isOutside wsX4_isOutside) := goodIn_app (goodIn_of _ (by decide +kernel)) ggX4_ball_X4_isOutside
set_option maxRecDepth 20000 in
theorem ggX4_ball_X1_rustOf : GoodIn wsX4_ball wsX1_rustOf := goodIn_r _ [20, 21, 91, 92, 93, 94] (by decide +kernel) (by decide +kernel)
set_option maxRecDepth 20000 in
theorem gX4_ball_X1_rustOf : GoodIn wsX4_ball (wsV RX4 194 RX1 yX1_rustOf wsX1_rustOf) := goodIn_app (goodIn_of _ (by decide +kernel)) ggX4_ball_X1_rustOf
set_option maxRecDepth 20000 in
theorem ggX4_ball_X2_layerOf : GoodIn wsX4_ball wsX2_layerOf := goodIn_r _ [26, 27, 28, 29, 25, 30, 31, 32, 95, 96, 97, 98] (by decide +kernel) (by decide +kernel)
set_option maxRecDepth 20000 in
theorem gX4_ball_X2_layerOf : GoodIn wsX4_ball (wsV RX4 197 RX2 yX2_layerOf wsX2_layerOf) := goodIn_app (goodIn_of _ (by decide +kernel)) ggX4_ball_X2_layerOf
set_option maxRecDepth 20000 in
theorem ggX4_ball_X2_rowOf : GoodIn wsX4_ball wsX2_rowOf := goodIn_r _ [36, 31, 37, 23, 24, 25, 26, 27, 28, 29, 30, 32, 38, 39, 40, 41, 42, 95, 96, 97, 98] (by decide +kernel) (by decide +kernel)
set_option maxRecDepth 20000 in
theorem gX4_ball_X2_rowOf : GoodIn wsX4_ball (wsV RX4 200 RX2 yX2_rowOf wsX2_rowOf) := goodIn_app (goodIn_of _ (by decide +kernel)) ggX4_ball_X2_rowOf
set_option maxRecDepth 20000 in
theorem ggX4_ball_X2_placeOf : GoodIn wsX4_ball wsX2_placeOf := goodIn_r _ [46, 31, 37, 23, 24, 25, 26, 27, 28, 29, 30, 32, 38, 39, 40, 41, 42, 95, 96, 97, 98] (by decide +kernel) (by decide +kernel)
set_option maxRecDepth 20000 in
theorem gX4_ball_X2_placeOf : GoodIn wsX4_ball (wsV RX4 203 RX2 yX2_placeOf wsX2_placeOf) := goodIn_app (goodIn_of _ (by decide +kernel)) ggX4_ball_X2_placeOf
set_option maxRecDepth 20000 in
theorem ggX4_ball_X1_isCovered : GoodIn wsX4_ball wsX1_isCovered := goodIn_r _ [50, 51, 52, 53, 54, 55, 25, 56, 57, 42, 91, 92, 93, 94, 95, 96, 97, 98] (by decide +kernel) (by decide +kernel)
set_option maxRecDepth 20000 in
theorem gX4_ball_X1_isCovered : GoodIn wsX4_ball (wsV RX4 206 RX1 yX1_isCovered wsX1_isCovered) := goodIn_app (goodIn_of _ (by decide +kernel)) ggX4_ball_X1_isCovered
set_option maxRecDepth 20000 in
theorem ggX4_ball_X1_ballsOn : GoodIn wsX4_ball wsX1_ballsOn := goodIn_r _ [61, 51, 62, 63, 64, 65, 66, 67, 68, 69, 52, 70, 23, 24, 25, 26, 27, 28, 29, 30, 31, 32, 71, 34, 35, 36, 37, 38, 39, 40, 41, 42, 72, 44, 45, 46, 73, 74, 75, 76, 91, 92, 93, 94, 95, 96, 97, 98] (by decide +kernel) (by decide +kernel)
set_option maxRecDepth 20000 in
theorem gX4_ball_X1_ballsOn : GoodIn wsX4_ball (wsV RX4 210 RX1 yX1_ballsOn wsX1_ballsOn) := goodIn_app (goodIn_of _ (by decide +kernel)) ggX4_ball_X1_ballsOn
theorem dX4_ball_0 : decode cX4_ball 0 = .ok (.aload_n 0, 1) := by decide +kernel
theorem dX4_ball_1 : decode cX4_ball 1 = .ok (.iload_n 1, 1) := by decide +kernel
theorem dX4_ball_2 : decode cX4_ball 2 = .ok (.invokevirtual 99, 3) := by decide +kernel
theorem dX4_ball_5 : decode cX4_ball 5 = .ok (.aload_n 0, 1) := by decide +kernel
theorem dX4_ball_6 : decode cX4_ball 6 = .ok (.getfield 36, 3) := by decide +kernel
theorem dX4_ball_9 : decode cX4_ball 9 = .ok (.getfield 61, 3) := by decide +kernel
theorem dX4_ball_12 : decode cX4_ball 12 = .ok (.iload_n 1, 1) := by decide +kernel
theorem dX4_ball_13 : decode cX4_ball 13 = .ok (.aaload, 1) := by decide +kernel
theorem dX4_ball_14 : decode cX4_ball 14 = .ok (.astore 4, 2) := by decide +kernel
theorem dX4_ball_16 : decode cX4_ball 16 = .ok (.iload_n 2, 1) := by decide +kernel
theorem dX4_ball_17 : decode cX4_ball 17 = .ok (.iconst 0, 1) := by decide +kernel
theorem dX4_ball_18 : decode cX4_ball 18 = .ok (.aload 4, 2) := by decide +kernel
theorem dX4_ball_20 : decode cX4_ball 20 = .ok (.getfield 116, 3) := by decide +kernel
theorem dX4_ball_23 : decode cX4_ball 23 = .ok (.iconst 1, 1) := by decide +kernel
theorem dX4_ball_24 : decode cX4_ball 24 = .ok (.isub, 1) := by decide +kernel
theorem dX4_ball_25 : decode cX4_ball 25 = .ok (.invokestatic 188, 3) := by decide +kernel
theorem dX4_ball_28 : decode cX4_ball 28 = .ok (.ifCond .eq 13, 3) := by decide +kernel
theorem dX4_ball_31 : decode cX4_ball 31 = .ok (.new 183, 3) := by decide +kernel
theorem dX4_ball_34 : decode cX4_ball 34 = .ok (.dup, 1) := by decide +kernel
theorem dX4_ball_35 : decode cX4_ball 35 = .ok (.ldc 192, 2) := by decide +kernel
theorem dX4_ball_37 : decode cX4_ball 37 = .ok (.invokespecial 187, 3) := by decide +kernel
theorem dX4_ball_40 : decode cX4_ball 40 = .ok (.athrow, 1) := by decide +kernel
theorem dX4_ball_41 : decode cX4_ball 41 = .ok (.iload_n 3, 1) := by decide +kernel
theorem dX4_ball_42 : decode cX4_ball 42 = .ok (.tableswitch 97 0 5 #[38, 45, 55, 65, 75, 90], 38) := by decide +kernel
theorem dX4_ball_80 : decode cX4_ball 80 = .ok (.aload 4, 2) := by decide +kernel
theorem dX4_ball_82 : decode cX4_ball 82 = .ok (.iload_n 2, 1) := by decide +kernel
theorem dX4_ball_83 : decode cX4_ball 83 = .ok (.invokevirtual 194, 3) := by decide +kernel
theorem dX4_ball_86 : decode cX4_ball 86 = .ok (.ireturn, 1) := by decide +kernel
theorem dX4_ball_87 : decode cX4_ball 87 = .ok (.aload 4, 2) := by decide +kernel
theorem dX4_ball_89 : decode cX4_ball 89 = .ok (.getfield 155, 3) := by decide +kernel
theorem dX4_ball_92 : decode cX4_ball 92 = .ok (.iload_n 2, 1) := by decide +kernel
theorem dX4_ball_93 : decode cX4_ball 93 = .ok (.invokevirtual 197, 3) := by decide +kernel
theorem dX4_ball_96 : decode cX4_ball 96 = .ok (.ireturn, 1) := by decide +kernel
theorem dX4_ball_97 : decode cX4_ball 97 = .ok (.aload 4, 2) := by decide +kernel
theorem dX4_ball_99 : decode cX4_ball 99 = .ok (.getfield 155, 3) := by decide +kernel
theorem dX4_ball_102 : decode cX4_ball 102 = .ok (.iload_n 2, 1) := by decide +kernel
theorem dX4_ball_103 : decode cX4_ball 103 = .ok (.invokevirtual 200, 3) := by decide +kernel
theorem dX4_ball_106 : decode cX4_ball 106 = .ok (.ireturn, 1) := by decide +kernel
theorem dX4_ball_107 : decode cX4_ball 107 = .ok (.aload 4, 2) := by decide +kernel
theorem dX4_ball_109 : decode cX4_ball 109 = .ok (.getfield 155, 3) := by decide +kernel
theorem dX4_ball_112 : decode cX4_ball 112 = .ok (.iload_n 2, 1) := by decide +kernel
theorem dX4_ball_113 : decode cX4_ball 113 = .ok (.invokevirtual 203, 3) := by decide +kernel
theorem dX4_ball_116 : decode cX4_ball 116 = .ok (.ireturn, 1) := by decide +kernel
theorem dX4_ball_117 : decode cX4_ball 117 = .ok (.aload 4, 2) := by decide +kernel
theorem dX4_ball_119 : decode cX4_ball 119 = .ok (.iload_n 2, 1) := by decide +kernel
theorem dX4_ball_120 : decode cX4_ball 120 = .ok (.invokevirtual 206, 3) := by decide +kernel
theorem dX4_ball_123 : decode cX4_ball 123 = .ok (.ifCond .eq 7, 3) := by decide +kernel
theorem dX4_ball_126 : decode cX4_ball 126 = .ok (.iconst 1, 1) := by decide +kernel
theorem dX4_ball_127 : decode cX4_ball 127 = .ok (.goto 4, 3) := by decide +kernel
theorem dX4_ball_130 : decode cX4_ball 130 = .ok (.iconst 0, 1) := by decide +kernel
theorem dX4_ball_131 : decode cX4_ball 131 = .ok (.ireturn, 1) := by decide +kernel
theorem dX4_ball_132 : decode cX4_ball 132 = .ok (.aload 4, 2) := by decide +kernel
theorem dX4_ball_134 : decode cX4_ball 134 = .ok (.iload_n 2, 1) := by decide +kernel
theorem dX4_ball_135 : decode cX4_ball 135 = .ok (.invokevirtual 210, 3) := by decide +kernel
theorem dX4_ball_138 : decode cX4_ball 138 = .ok (.ireturn, 1) := by decide +kernel
theorem dX4_ball_139 : decode cX4_ball 139 = .ok (.new 183, 3) := by decide +kernel
theorem dX4_ball_142 : decode cX4_ball 142 = .ok (.dup, 1) := by decide +kernel
theorem dX4_ball_143 : decode cX4_ball 143 = .ok (.ldc 213, 2) := by decide +kernel
theorem dX4_ball_145 : decode cX4_ball 145 = .ok (.invokespecial 187, 3) := by decide +kernel
theorem dX4_ball_148 : decode cX4_ball 148 = .ok (.athrow, 1) := by decide +kernel
set_option maxRecDepth 20000 in
theorem ggX4_at_X4_checkPile : GoodIn wsX4_at wsX4_checkPile := goodIn_ca (goodIn_r _ [12, 1, 2, 3, 13, 14, 15, 11, 16, 29, 30, 31, 32, 33, 34, 35, 36, 37, 38, 39, 40, 41, 42] (by decide +kernel) (by decide +kernel)) (goodIn_sub (fun _ h => List.mem_cons_of_mem _ (List.mem_append_right _ h)) (by decide +kernel))
set_option maxRecDepth 20000 in
theorem gX4_at_X4_checkPile : GoodIn wsX4_at (wsV RX4 99 RX4 yX4_checkPile wsX4_checkPile) := goodIn_app (goodIn_of _ (by decide +kernel)) ggX4_at_X4_checkPile
set_option maxRecDepth 20000 in
theorem ggX4_at_X4_isOutside : GoodIn wsX4_at wsX4_isOutside := goodIn_r _ [16] (by decide +kernel) (by decide +kernel)
set_option maxRecDepth 20000 in
theorem gX4_at_X4_isOutside : GoodIn wsX4_at (va_wsS RX4 188 yX4_isOutside wsX4_isOutside) := goodIn_app (goodIn_of _ (by decide +kernel)) ggX4_at_X4_isOutside
set_option maxRecDepth 20000 in
theorem ggX4_at_X2_numberOf : GoodIn wsX4_at wsX2_numberOf := goodIn_r _ [21, 22, 23, 24, 25, 20, 26, 27, 28, 47, 48, 49, 50] (by decide +kernel) (by decide +kernel)
set_option maxRecDepth 20000 in
theorem gX4_at_X2_numberOf : GoodIn wsX4_at (wsV RX4 221 RX2 yX2_numberOf wsX2_numberOf) := goodIn_app (goodIn_of _ (by decide +kernel)) ggX4_at_X2_numberOf
theorem dX4_at_0 : decode cX4_at 0 = .ok (.aload_n 0, 1) := by decide +kernel
theorem dX4_at_1 : decode cX4_at 1 = .ok (.iload_n 1, 1) := by decide +kernel
theorem dX4_at_2 : decode cX4_at 2 = .ok (.invokevirtual 99, 3) := by decide +kernel
theorem dX4_at_5 : decode cX4_at 5 = .ok (.aload_n 0, 1) := by decide +kernel
theorem dX4_at_6 : decode cX4_at 6 = .ok (.getfield 36, 3) := by decide +kernel
theorem dX4_at_9 : decode cX4_at 9 = .ok (.getfield 61, 3) := by decide +kernel
theorem dX4_at_12 : decode cX4_at 12 = .ok (.iload_n 1, 1) := by decide +kernel
theorem dX4_at_13 : decode cX4_at 13 = .ok (.aaload, 1) := by decide +kernel
theorem dX4_at_14 : decode cX4_at 14 = .ok (.astore 5, 2) := by decide +kernel
theorem dX4_at_16 : decode cX4_at 16 = .ok (.iload_n 2, 1) := by decide +kernel
theorem dX4_at_17 : decode cX4_at 17 = .ok (.iconst 0, 1) := by decide +kernel
theorem dX4_at_18 : decode cX4_at 18 = .ok (.aload 5, 2) := by decide +kernel
theorem dX4_at_20 : decode cX4_at 20 = .ok (.getfield 155, 3) := by decide +kernel
theorem dX4_at_23 : decode cX4_at 23 = .ok (.getfield 159, 3) := by decide +kernel
theorem dX4_at_26 : decode cX4_at 26 = .ok (.iconst 1, 1) := by decide +kernel
theorem dX4_at_27 : decode cX4_at 27 = .ok (.isub, 1) := by decide +kernel
theorem dX4_at_28 : decode cX4_at 28 = .ok (.invokestatic 188, 3) := by decide +kernel
theorem dX4_at_31 : decode cX4_at 31 = .ok (.ifCond .eq 13, 3) := by decide +kernel
theorem dX4_at_34 : decode cX4_at 34 = .ok (.new 183, 3) := by decide +kernel
theorem dX4_at_37 : decode cX4_at 37 = .ok (.dup, 1) := by decide +kernel
theorem dX4_at_38 : decode cX4_at 38 = .ok (.ldc 215, 2) := by decide +kernel
theorem dX4_at_40 : decode cX4_at 40 = .ok (.invokespecial 187, 3) := by decide +kernel
theorem dX4_at_43 : decode cX4_at 43 = .ok (.athrow, 1) := by decide +kernel
theorem dX4_at_44 : decode cX4_at 44 = .ok (.aload 5, 2) := by decide +kernel
theorem dX4_at_46 : decode cX4_at 46 = .ok (.getfield 155, 3) := by decide +kernel
theorem dX4_at_49 : decode cX4_at 49 = .ok (.getfield 159, 3) := by decide +kernel
theorem dX4_at_52 : decode cX4_at 52 = .ok (.iload_n 2, 1) := by decide +kernel
theorem dX4_at_53 : decode cX4_at 53 = .ok (.isub, 1) := by decide +kernel
theorem dX4_at_54 : decode cX4_at 54 = .ok (.istore 6, 2) := by decide +kernel
theorem dX4_at_56 : decode cX4_at 56 = .ok (.iload_n 3, 1) := by decide +kernel
theorem dX4_at_57 : decode cX4_at 57 = .ok (.iconst 0, 1) := by decide +kernel
theorem dX4_at_58 : decode cX4_at 58 = .ok (.iload 6, 2) := by decide +kernel
theorem dX4_at_60 : decode cX4_at 60 = .ok (.iconst 1, 1) := by decide +kernel
theorem dX4_at_61 : decode cX4_at 61 = .ok (.isub, 1) := by decide +kernel
theorem dX4_at_62 : decode cX4_at 62 = .ok (.invokestatic 188, 3) := by decide +kernel
theorem dX4_at_65 : decode cX4_at 65 = .ok (.ifCond .eq 13, 3) := by decide +kernel
theorem dX4_at_68 : decode cX4_at 68 = .ok (.new 183, 3) := by decide +kernel
theorem dX4_at_71 : decode cX4_at 71 = .ok (.dup, 1) := by decide +kernel
theorem dX4_at_72 : decode cX4_at 72 = .ok (.ldc 217, 2) := by decide +kernel
theorem dX4_at_74 : decode cX4_at 74 = .ok (.invokespecial 187, 3) := by decide +kernel
theorem dX4_at_77 : decode cX4_at 77 = .ok (.athrow, 1) := by decide +kernel
theorem dX4_at_78 : decode cX4_at 78 = .ok (.iload 4, 2) := by decide +kernel
theorem dX4_at_80 : decode cX4_at 80 = .ok (.iconst 0, 1) := by decide +kernel
theorem dX4_at_81 : decode cX4_at 81 = .ok (.iload 6, 2) := by decide +kernel
theorem dX4_at_83 : decode cX4_at 83 = .ok (.iconst 1, 1) := by decide +kernel
theorem dX4_at_84 : decode cX4_at 84 = .ok (.isub, 1) := by decide +kernel
theorem dX4_at_85 : decode cX4_at 85 = .ok (.invokestatic 188, 3) := by decide +kernel
theorem dX4_at_88 : decode cX4_at 88 = .ok (.ifCond .eq 13, 3) := by decide +kernel
theorem dX4_at_91 : decode cX4_at 91 = .ok (.new 183, 3) := by decide +kernel
theorem dX4_at_94 : decode cX4_at 94 = .ok (.dup, 1) := by decide +kernel
theorem dX4_at_95 : decode cX4_at 95 = .ok (.ldc 219, 2) := by decide +kernel
theorem dX4_at_97 : decode cX4_at 97 = .ok (.invokespecial 187, 3) := by decide +kernel
theorem dX4_at_100 : decode cX4_at 100 = .ok (.athrow, 1) := by decide +kernel
theorem dX4_at_101 : decode cX4_at 101 = .ok (.aload 5, 2) := by decide +kernel
theorem dX4_at_103 : decode cX4_at 103 = .ok (.getfield 155, 3) := by decide +kernel
theorem dX4_at_106 : decode cX4_at 106 = .ok (.iload_n 2, 1) := by decide +kernel
theorem dX4_at_107 : decode cX4_at 107 = .ok (.iload_n 3, 1) := by decide +kernel
theorem dX4_at_108 : decode cX4_at 108 = .ok (.iload 4, 2) := by decide +kernel
theorem dX4_at_110 : decode cX4_at 110 = .ok (.invokevirtual 221, 3) := by decide +kernel
theorem dX4_at_113 : decode cX4_at 113 = .ok (.istore 7, 2) := by decide +kernel
theorem dX4_at_115 : decode cX4_at 115 = .ok (.iload 7, 2) := by decide +kernel
theorem dX4_at_117 : decode cX4_at 117 = .ok (.aload 5, 2) := by decide +kernel
theorem dX4_at_119 : decode cX4_at 119 = .ok (.getfield 116, 3) := by decide +kernel
theorem dX4_at_122 : decode cX4_at 122 = .ok (.if_icmp .ge 8, 3) := by decide +kernel
theorem dX4_at_125 : decode cX4_at 125 = .ok (.iload 7, 2) := by decide +kernel
theorem dX4_at_127 : decode cX4_at 127 = .ok (.goto 4, 3) := by decide +kernel
theorem dX4_at_130 : decode cX4_at 130 = .ok (.iconst (-1), 1) := by decide +kernel
theorem dX4_at_131 : decode cX4_at 131 = .ok (.ireturn, 1) := by decide +kernel
set_option maxRecDepth 20000 in
theorem ggX4_told_X4_checkCalibre : GoodIn wsX4_told wsX4_checkCalibre := goodIn_ca (goodIn_r _ [11, 1, 2, 12, 13, 10, 14] (by decide +kernel) (by decide +kernel)) (goodIn_sub (fun _ h => List.mem_cons_of_mem _ (List.mem_append_right _ h)) (by decide +kernel))
set_option maxRecDepth 20000 in
theorem gX4_told_X4_checkCalibre : GoodIn wsX4_told (va_wsS RX4 43 yX4_checkCalibre wsX4_checkCalibre) := goodIn_app (goodIn_of _ (by decide +kernel)) ggX4_told_X4_checkCalibre
set_option maxRecDepth 20000 in
theorem ggX4_told_X6_of : GoodIn wsX4_told wsX6_of := goodIn_r _ [19, 20, 44] (by decide +kernel) (by decide +kernel)
set_option maxRecDepth 20000 in
theorem gX4_told_X6_of : GoodIn wsX4_told (wsV RX4 89 RX6 yX6_of wsX6_of) := goodIn_app (goodIn_of _ (by decide +kernel)) ggX4_told_X6_of
set_option maxRecDepth 20000 in
theorem ggX4_told_X3_ballsOfCalibre : GoodIn wsX4_told wsX3_ballsOfCalibre := goodIn_r _ [25, 26, 27, 28, 29, 36, 37, 38, 39, 40, 41, 42, 43, 45, 46, 47, 48] (by decide +kernel) (by decide +kernel)
set_option maxRecDepth 20000 in
theorem gX4_told_X3_ballsOfCalibre : GoodIn wsX4_told (wsV RX4 225 RX3 yX3_ballsOfCalibre wsX3_ballsOfCalibre) := goodIn_app (goodIn_of _ (by decide +kernel)) ggX4_told_X3_ballsOfCalibre
theorem dX4_told_0 : decode cX4_told 0 = .ok (.iload_n 1, 1) := by decide +kernel
theorem dX4_told_1 : decode cX4_told 1 = .ok (.invokestatic 43, 3) := by decide +kernel
theorem dX4_told_4 : decode cX4_told 4 = .ok (.iload_n 2, 1) := by decide +kernel
theorem dX4_told_5 : decode cX4_told 5 = .ok (.tableswitch 83 0 4 #[35, 44, 56, 65, 74], 35) := by decide +kernel
theorem dX4_told_40 : decode cX4_told 40 = .ok (.aload_n 0, 1) := by decide +kernel
theorem dX4_told_41 : decode cX4_told 41 = .ok (.getfield 21, 3) := by decide +kernel
theorem dX4_told_44 : decode cX4_told 44 = .ok (.iload_n 1, 1) := by decide +kernel
theorem dX4_told_45 : decode cX4_told 45 = .ok (.invokevirtual 89, 3) := by decide +kernel
theorem dX4_told_48 : decode cX4_told 48 = .ok (.ireturn, 1) := by decide +kernel
theorem dX4_told_49 : decode cX4_told 49 = .ok (.aload_n 0, 1) := by decide +kernel
theorem dX4_told_50 : decode cX4_told 50 = .ok (.getfield 36, 3) := by decide +kernel
theorem dX4_told_53 : decode cX4_told 53 = .ok (.getfield 143, 3) := by decide +kernel
theorem dX4_told_56 : decode cX4_told 56 = .ok (.iload_n 1, 1) := by decide +kernel
theorem dX4_told_57 : decode cX4_told 57 = .ok (.invokevirtual 89, 3) := by decide +kernel
theorem dX4_told_60 : decode cX4_told 60 = .ok (.ireturn, 1) := by decide +kernel
theorem dX4_told_61 : decode cX4_told 61 = .ok (.aload_n 0, 1) := by decide +kernel
theorem dX4_told_62 : decode cX4_told 62 = .ok (.getfield 36, 3) := by decide +kernel
theorem dX4_told_65 : decode cX4_told 65 = .ok (.iload_n 1, 1) := by decide +kernel
theorem dX4_told_66 : decode cX4_told 66 = .ok (.invokevirtual 225, 3) := by decide +kernel
theorem dX4_told_69 : decode cX4_told 69 = .ok (.ireturn, 1) := by decide +kernel
theorem dX4_told_70 : decode cX4_told 70 = .ok (.aload_n 0, 1) := by decide +kernel
theorem dX4_told_71 : decode cX4_told 71 = .ok (.getfield 25, 3) := by decide +kernel
theorem dX4_told_74 : decode cX4_told 74 = .ok (.iload_n 1, 1) := by decide +kernel
theorem dX4_told_75 : decode cX4_told 75 = .ok (.invokevirtual 89, 3) := by decide +kernel
theorem dX4_told_78 : decode cX4_told 78 = .ok (.ireturn, 1) := by decide +kernel
theorem dX4_told_79 : decode cX4_told 79 = .ok (.aload_n 0, 1) := by decide +kernel
theorem dX4_told_80 : decode cX4_told 80 = .ok (.getfield 28, 3) := by decide +kernel
theorem dX4_told_83 : decode cX4_told 83 = .ok (.iload_n 1, 1) := by decide +kernel
theorem dX4_told_84 : decode cX4_told 84 = .ok (.invokevirtual 89, 3) := by decide +kernel
theorem dX4_told_87 : decode cX4_told 87 = .ok (.ireturn, 1) := by decide +kernel
theorem dX4_told_88 : decode cX4_told 88 = .ok (.new 183, 3) := by decide +kernel
theorem dX4_told_91 : decode cX4_told 91 = .ok (.dup, 1) := by decide +kernel
theorem dX4_told_92 : decode cX4_told 92 = .ok (.ldc 228, 2) := by decide +kernel
theorem dX4_told_94 : decode cX4_told 94 = .ok (.invokespecial 187, 3) := by decide +kernel
theorem dX4_told_97 : decode cX4_told 97 = .ok (.athrow, 1) := by decide +kernel
set_option maxRecDepth 20000 in
theorem ggX4_mouser_X4_checkCat : GoodIn wsX4_mouser wsX4_checkCat := goodIn_ca (goodIn_r _ [12, 1, 2, 3, 13, 14, 15, 11, 16, 17, 18, 19, 20, 21, 22, 23, 24, 25, 26, 27, 28, 29, 30] (by decide +kernel) (by decide +kernel)) (goodIn_sub (fun _ h => List.mem_cons_of_mem _ (List.mem_append_right _ h)) (by decide +kernel))
set_option maxRecDepth 20000 in
theorem gX4_mouser_X4_checkCat : GoodIn wsX4_mouser (wsV RX4 149 RX4 yX4_checkCat wsX4_checkCat) := goodIn_app (goodIn_of _ (by decide +kernel)) ggX4_mouser_X4_checkCat
theorem dX4_mouser_0 : decode cX4_mouser 0 = .ok (.aload_n 0, 1) := by decide +kernel
theorem dX4_mouser_1 : decode cX4_mouser 1 = .ok (.iload_n 1, 1) := by decide +kernel
theorem dX4_mouser_2 : decode cX4_mouser 2 = .ok (.invokevirtual 149, 3) := by decide +kernel
theorem dX4_mouser_5 : decode cX4_mouser 5 = .ok (.aload_n 0, 1) := by decide +kernel
theorem dX4_mouser_6 : decode cX4_mouser 6 = .ok (.getfield 36, 3) := by decide +kernel
theorem dX4_mouser_9 : decode cX4_mouser 9 = .ok (.getfield 76, 3) := by decide +kernel
theorem dX4_mouser_12 : decode cX4_mouser 12 = .ok (.iload_n 1, 1) := by decide +kernel
theorem dX4_mouser_13 : decode cX4_mouser 13 = .ok (.aaload, 1) := by decide +kernel
theorem dX4_mouser_14 : decode cX4_mouser 14 = .ok (.astore_n 3, 1) := by decide +kernel
theorem dX4_mouser_15 : decode cX4_mouser 15 = .ok (.iload_n 2, 1) := by decide +kernel
theorem dX4_mouser_16 : decode cX4_mouser 16 = .ok (.tableswitch 43 0 2 #[28, 33, 38], 28) := by decide +kernel
theorem dX4_mouser_44 : decode cX4_mouser 44 = .ok (.aload_n 3, 1) := by decide +kernel
theorem dX4_mouser_45 : decode cX4_mouser 45 = .ok (.getfield 80, 3) := by decide +kernel
theorem dX4_mouser_48 : decode cX4_mouser 48 = .ok (.ireturn, 1) := by decide +kernel
theorem dX4_mouser_49 : decode cX4_mouser 49 = .ok (.aload_n 3, 1) := by decide +kernel
theorem dX4_mouser_50 : decode cX4_mouser 50 = .ok (.getfield 152, 3) := by decide +kernel
theorem dX4_mouser_53 : decode cX4_mouser 53 = .ok (.ireturn, 1) := by decide +kernel
theorem dX4_mouser_54 : decode cX4_mouser 54 = .ok (.aload_n 3, 1) := by decide +kernel
theorem dX4_mouser_55 : decode cX4_mouser 55 = .ok (.getfield 230, 3) := by decide +kernel
theorem dX4_mouser_58 : decode cX4_mouser 58 = .ok (.ireturn, 1) := by decide +kernel
theorem dX4_mouser_59 : decode cX4_mouser 59 = .ok (.new 183, 3) := by decide +kernel
theorem dX4_mouser_62 : decode cX4_mouser 62 = .ok (.dup, 1) := by decide +kernel
theorem dX4_mouser_63 : decode cX4_mouser 63 = .ok (.ldc 233, 2) := by decide +kernel
theorem dX4_mouser_65 : decode cX4_mouser 65 = .ok (.invokespecial 187, 3) := by decide +kernel
theorem dX4_mouser_68 : decode cX4_mouser 68 = .ok (.athrow, 1) := by decide +kernel
set_option maxRecDepth 20000 in
theorem ggX4_count_X6_all : GoodIn wsX4_count wsX6_all := goodIn_r _ [16, 17, 54] (by decide +kernel) (by decide +kernel)
set_option maxRecDepth 20000 in
theorem gX4_count_X6_all : GoodIn wsX4_count (wsV RX4 146 RX6 yX6_all wsX6_all) := goodIn_app (goodIn_of _ (by decide +kernel)) ggX4_count_X6_all
set_option maxRecDepth 20000 in
theorem ggX4_count_X3_ballCount : GoodIn wsX4_count wsX3_ballCount := goodIn_r _ [22, 23, 24, 25, 26, 27, 28, 13, 14, 15, 16, 17, 29, 30, 31, 32, 33, 34, 35, 36, 37, 38, 39, 46, 47, 48, 49, 50, 51, 52, 53, 55, 56, 57, 58, 54] (by decide +kernel) (by decide +kernel)
set_option maxRecDepth 20000 in
theorem gX4_count_X3_ballCount : GoodIn wsX4_count (wsV RX4 238 RX3 yX3_ballCount wsX3_ballCount) := goodIn_app (goodIn_of _ (by decide +kernel)) ggX4_count_X3_ballCount
theorem dX4_count_0 : decode cX4_count 0 = .ok (.iload_n 1, 1) := by decide +kernel
theorem dX4_count_1 : decode cX4_count 1 = .ok (.tableswitch 132 0 10 #[59, 67, 75, 83, 91, 91, 91, 100, 108, 116, 124], 59) := by decide +kernel
theorem dX4_count_60 : decode cX4_count 60 = .ok (.aload_n 0, 1) := by decide +kernel
theorem dX4_count_61 : decode cX4_count 61 = .ok (.getfield 36, 3) := by decide +kernel
theorem dX4_count_64 : decode cX4_count 64 = .ok (.getfield 235, 3) := by decide +kernel
theorem dX4_count_67 : decode cX4_count 67 = .ok (.ireturn, 1) := by decide +kernel
theorem dX4_count_68 : decode cX4_count 68 = .ok (.aload_n 0, 1) := by decide +kernel
theorem dX4_count_69 : decode cX4_count 69 = .ok (.getfield 36, 3) := by decide +kernel
theorem dX4_count_72 : decode cX4_count 72 = .ok (.getfield 50, 3) := by decide +kernel
theorem dX4_count_75 : decode cX4_count 75 = .ok (.ireturn, 1) := by decide +kernel
theorem dX4_count_76 : decode cX4_count 76 = .ok (.aload_n 0, 1) := by decide +kernel
theorem dX4_count_77 : decode cX4_count 77 = .ok (.getfield 36, 3) := by decide +kernel
theorem dX4_count_80 : decode cX4_count 80 = .ok (.getfield 71, 3) := by decide +kernel
theorem dX4_count_83 : decode cX4_count 83 = .ok (.ireturn, 1) := by decide +kernel
theorem dX4_count_84 : decode cX4_count 84 = .ok (.aload_n 0, 1) := by decide +kernel
theorem dX4_count_85 : decode cX4_count 85 = .ok (.getfield 21, 3) := by decide +kernel
theorem dX4_count_88 : decode cX4_count 88 = .ok (.invokevirtual 146, 3) := by decide +kernel
theorem dX4_count_91 : decode cX4_count 91 = .ok (.ireturn, 1) := by decide +kernel
theorem dX4_count_92 : decode cX4_count 92 = .ok (.aload_n 0, 1) := by decide +kernel
theorem dX4_count_93 : decode cX4_count 93 = .ok (.getfield 36, 3) := by decide +kernel
theorem dX4_count_96 : decode cX4_count 96 = .ok (.iload_n 1, 1) := by decide +kernel
theorem dX4_count_97 : decode cX4_count 97 = .ok (.invokevirtual 238, 3) := by decide +kernel
theorem dX4_count_100 : decode cX4_count 100 = .ok (.ireturn, 1) := by decide +kernel
theorem dX4_count_101 : decode cX4_count 101 = .ok (.aload_n 0, 1) := by decide +kernel
theorem dX4_count_102 : decode cX4_count 102 = .ok (.getfield 25, 3) := by decide +kernel
theorem dX4_count_105 : decode cX4_count 105 = .ok (.invokevirtual 146, 3) := by decide +kernel
theorem dX4_count_108 : decode cX4_count 108 = .ok (.ireturn, 1) := by decide +kernel
theorem dX4_count_109 : decode cX4_count 109 = .ok (.aload_n 0, 1) := by decide +kernel
theorem dX4_count_110 : decode cX4_count 110 = .ok (.getfield 28, 3) := by decide +kernel
theorem dX4_count_113 : decode cX4_count 113 = .ok (.invokevirtual 146, 3) := by decide +kernel
theorem dX4_count_116 : decode cX4_count 116 = .ok (.ireturn, 1) := by decide +kernel
theorem dX4_count_117 : decode cX4_count 117 = .ok (.aload_n 0, 1) := by decide +kernel
theorem dX4_count_118 : decode cX4_count 118 = .ok (.getfield 36, 3) := by decide +kernel
theorem dX4_count_121 : decode cX4_count 121 = .ok (.getfield 93, 3) := by decide +kernel
theorem dX4_count_124 : decode cX4_count 124 = .ok (.ireturn, 1) := by decide +kernel
theorem dX4_count_125 : decode cX4_count 125 = .ok (.aload_n 0, 1) := by decide +kernel
theorem dX4_count_126 : decode cX4_count 126 = .ok (.getfield 36, 3) := by decide +kernel
theorem dX4_count_129 : decode cX4_count 129 = .ok (.getfield 96, 3) := by decide +kernel
theorem dX4_count_132 : decode cX4_count 132 = .ok (.ireturn, 1) := by decide +kernel
theorem dX4_count_133 : decode cX4_count 133 = .ok (.new 183, 3) := by decide +kernel
theorem dX4_count_136 : decode cX4_count 136 = .ok (.dup, 1) := by decide +kernel
theorem dX4_count_137 : decode cX4_count 137 = .ok (.ldc 241, 2) := by decide +kernel
theorem dX4_count_139 : decode cX4_count 139 = .ok (.invokespecial 187, 3) := by decide +kernel
theorem dX4_count_142 : decode cX4_count 142 = .ok (.athrow, 1) := by decide +kernel
set_option maxRecDepth 20000 in
theorem ggX4_room_X4_checkArgument : GoodIn wsX4_room wsX4_checkArgument := goodIn_ca (goodIn_r _ [4, 5, 6, 7, 8, 3, 9] (by decide +kernel) (by decide +kernel)) (goodIn_sub (fun _ h => List.mem_cons_of_mem _ (List.mem_append_right _ h)) (by decide +kernel))
set_option maxRecDepth 20000 in
theorem gX4_room_X4_checkArgument : GoodIn wsX4_room (va_wsS RX4 46 yX4_checkArgument wsX4_checkArgument) := goodIn_app (goodIn_of _ (by decide +kernel)) ggX4_room_X4_checkArgument
set_option maxRecDepth 20000 in
theorem ggX4_room_X2_squares : GoodIn wsX4_room wsX2_squares := goodIn_r _ [13] (by decide +kernel) (by decide +kernel)
set_option maxRecDepth 20000 in
theorem gX4_room_X2_squares : GoodIn wsX4_room (va_wsS RX4 243 yX2_squares wsX2_squares) := goodIn_app (goodIn_of _ (by decide +kernel)) ggX4_room_X2_squares
theorem dX4_room_0 : decode cX4_room 0 = .ok (.iload_n 1, 1) := by decide +kernel
theorem dX4_room_1 : decode cX4_room 1 = .ok (.iconst 1, 1) := by decide +kernel
theorem dX4_room_2 : decode cX4_room 2 = .ok (.bipush 20, 2) := by decide +kernel
theorem dX4_room_4 : decode cX4_room 4 = .ok (.invokestatic 46, 3) := by decide +kernel
theorem dX4_room_7 : decode cX4_room 7 = .ok (.iload_n 1, 1) := by decide +kernel
theorem dX4_room_8 : decode cX4_room 8 = .ok (.invokestatic 243, 3) := by decide +kernel
theorem dX4_room_11 : decode cX4_room 11 = .ok (.ireturn, 1) := by decide +kernel
set_option maxRecDepth 20000 in
theorem ggX4_pass_X4_checkArgument : GoodIn wsX4_pass wsX4_checkArgument := goodIn_ca (goodIn_r _ [5, 6, 7, 8, 9, 4, 10] (by decide +kernel) (by decide +kernel)) (goodIn_sub (fun _ h => List.mem_cons_of_mem _ (List.mem_append_right _ h)) (by decide +kernel))
set_option maxRecDepth 20000 in
theorem gX4_pass_X4_checkArgument : GoodIn wsX4_pass (va_wsS RX4 46 yX4_checkArgument wsX4_checkArgument) := goodIn_app (goodIn_of _ (by decide +kernel)) ggX4_pass_X4_checkArgument
set_option maxRecDepth 20000 in
theorem ggX4_pass_X3_passDays : GoodIn wsX4_pass wsX3_passDays := goodIn_r _ [15, 16, 17, 18, 14, 19, 20, 21, 22, 23, 24, 25, 26, 27, 28, 29, 30, 31, 32, 33, 34, 35, 36, 37, 38, 39, 40, 41, 42, 43, 44, 45, 46, 47, 48, 49, 50, 51, 52, 53, 54, 55, 56, 57, 58, 59, 60, 61, 62, 63, 64, 65, 66, 67, 68, 69, 70, 71, 72, 73, 74, 75, 76, 77, 78, 79, 80, 81, 82, 83, 84, 85, 86, 87, 88, 89, 90, 91, 92, 93, 94, 95, 96, 97, 98, 99, 106, 107, 108, 109, 110, 111, 112, 113, 114, 115, 116, 117, 118, 119, 120, 121, 122, 123, 124, 125] (by decide +kernel) (by decide +kernel)
set_option maxRecDepth 20000 in
theorem gX4_pass_X3_passDays : GoodIn wsX4_pass (wsV RX4 246 RX3 yX3_passDays wsX3_passDays) := goodIn_app (goodIn_of _ (by decide +kernel)) ggX4_pass_X3_passDays
theorem dX4_pass_0 : decode cX4_pass 0 = .ok (.iload_n 1, 1) := by decide +kernel
theorem dX4_pass_1 : decode cX4_pass 1 = .ok (.iconst 1, 1) := by decide +kernel
theorem dX4_pass_2 : decode cX4_pass 2 = .ok (.bipush 60, 2) := by decide +kernel
theorem dX4_pass_4 : decode cX4_pass 4 = .ok (.invokestatic 46, 3) := by decide +kernel
theorem dX4_pass_7 : decode cX4_pass 7 = .ok (.aload_n 0, 1) := by decide +kernel
theorem dX4_pass_8 : decode cX4_pass 8 = .ok (.getfield 36, 3) := by decide +kernel
theorem dX4_pass_11 : decode cX4_pass 11 = .ok (.iload_n 1, 1) := by decide +kernel
theorem dX4_pass_12 : decode cX4_pass 12 = .ok (.invokevirtual 246, 3) := by decide +kernel
theorem dX4_pass_15 : decode cX4_pass 15 = .ok (.ireturn, 1) := by decide +kernel
set_option maxRecDepth 20000 in
theorem ggX4_mean_X1_allRust : GoodIn wsX4_mean wsX1_allRust := goodIn_r _ [9, 10, 11, 12, 13, 8, 14, 15, 30, 31, 32, 33] (by decide +kernel) (by decide +kernel)
set_option maxRecDepth 20000 in
theorem gX4_mean_X1_allRust : GoodIn wsX4_mean (wsV RX4 180 RX1 yX1_allRust wsX1_allRust) := goodIn_app (goodIn_of _ (by decide +kernel)) ggX4_mean_X1_allRust
theorem dX4_mean_0 : decode cX4_mean 0 = .ok (.iconst 0, 1) := by decide +kernel
theorem dX4_mean_1 : decode cX4_mean 1 = .ok (.istore_n 1, 1) := by decide +kernel
theorem dX4_mean_2 : decode cX4_mean 2 = .ok (.iconst 0, 1) := by decide +kernel
theorem dX4_mean_3 : decode cX4_mean 3 = .ok (.istore_n 2, 1) := by decide +kernel
theorem dX4_mean_4 : decode cX4_mean 4 = .ok (.iconst 0, 1) := by decide +kernel
theorem dX4_mean_5 : decode cX4_mean 5 = .ok (.istore_n 3, 1) := by decide +kernel
theorem dX4_mean_6 : decode cX4_mean 6 = .ok (.iload_n 3, 1) := by decide +kernel
theorem dX4_mean_7 : decode cX4_mean 7 = .ok (.aload_n 0, 1) := by decide +kernel
theorem dX4_mean_8 : decode cX4_mean 8 = .ok (.getfield 36, 3) := by decide +kernel
theorem dX4_mean_11 : decode cX4_mean 11 = .ok (.getfield 50, 3) := by decide +kernel
theorem dX4_mean_14 : decode cX4_mean 14 = .ok (.if_icmp .ge 39, 3) := by decide +kernel
theorem dX4_mean_17 : decode cX4_mean 17 = .ok (.iload_n 1, 1) := by decide +kernel
theorem dX4_mean_18 : decode cX4_mean 18 = .ok (.aload_n 0, 1) := by decide +kernel
theorem dX4_mean_19 : decode cX4_mean 19 = .ok (.getfield 36, 3) := by decide +kernel
theorem dX4_mean_22 : decode cX4_mean 22 = .ok (.getfield 61, 3) := by decide +kernel
theorem dX4_mean_25 : decode cX4_mean 25 = .ok (.iload_n 3, 1) := by decide +kernel
theorem dX4_mean_26 : decode cX4_mean 26 = .ok (.aaload, 1) := by decide +kernel
theorem dX4_mean_27 : decode cX4_mean 27 = .ok (.getfield 116, 3) := by decide +kernel
theorem dX4_mean_30 : decode cX4_mean 30 = .ok (.iadd, 1) := by decide +kernel
theorem dX4_mean_31 : decode cX4_mean 31 = .ok (.istore_n 1, 1) := by decide +kernel
theorem dX4_mean_32 : decode cX4_mean 32 = .ok (.iload_n 2, 1) := by decide +kernel
theorem dX4_mean_33 : decode cX4_mean 33 = .ok (.aload_n 0, 1) := by decide +kernel
theorem dX4_mean_34 : decode cX4_mean 34 = .ok (.getfield 36, 3) := by decide +kernel
theorem dX4_mean_37 : decode cX4_mean 37 = .ok (.getfield 61, 3) := by decide +kernel
theorem dX4_mean_40 : decode cX4_mean 40 = .ok (.iload_n 3, 1) := by decide +kernel
theorem dX4_mean_41 : decode cX4_mean 41 = .ok (.aaload, 1) := by decide +kernel
theorem dX4_mean_42 : decode cX4_mean 42 = .ok (.invokevirtual 180, 3) := by decide +kernel
theorem dX4_mean_45 : decode cX4_mean 45 = .ok (.iadd, 1) := by decide +kernel
theorem dX4_mean_46 : decode cX4_mean 46 = .ok (.istore_n 2, 1) := by decide +kernel
theorem dX4_mean_47 : decode cX4_mean 47 = .ok (.iinc 3 1, 3) := by decide +kernel
theorem dX4_mean_50 : decode cX4_mean 50 = .ok (.goto (-44), 3) := by decide +kernel
theorem dX4_mean_53 : decode cX4_mean 53 = .ok (.iload_n 1, 1) := by decide +kernel
theorem dX4_mean_54 : decode cX4_mean 54 = .ok (.ifCond .ne 7, 3) := by decide +kernel
theorem dX4_mean_57 : decode cX4_mean 57 = .ok (.dconst 0, 1) := by decide +kernel
theorem dX4_mean_58 : decode cX4_mean 58 = .ok (.goto 8, 3) := by decide +kernel
theorem dX4_mean_61 : decode cX4_mean 61 = .ok (.iload_n 2, 1) := by decide +kernel
theorem dX4_mean_62 : decode cX4_mean 62 = .ok (.i2d, 1) := by decide +kernel
theorem dX4_mean_63 : decode cX4_mean 63 = .ok (.iload_n 1, 1) := by decide +kernel
theorem dX4_mean_64 : decode cX4_mean 64 = .ok (.i2d, 1) := by decide +kernel
theorem dX4_mean_65 : decode cX4_mean 65 = .ok (.ddiv, 1) := by decide +kernel
theorem dX4_mean_66 : decode cX4_mean 66 = .ok (.dreturn, 1) := by decide +kernel
set_option maxRecDepth 20000 in
theorem ggX4_checkPile_X4_isOutside : GoodIn wsX4_checkPile wsX4_isOutside := goodIn_r _ [8] (by decide +kernel) (by decide +kernel)
set_option maxRecDepth 20000 in
theorem gX4_checkPile_X4_isOutside : GoodIn wsX4_checkPile (va_wsS RX4 188 yX4_isOutside wsX4_isOutside) := goodIn_app (goodIn_of _ (by decide +kernel)) ggX4_checkPile_X4_isOutside
theorem dX4_checkPile_0 : decode cX4_checkPile 0 = .ok (.iload_n 1, 1) := by decide +kernel
theorem dX4_checkPile_1 : decode cX4_checkPile 1 = .ok (.iconst 0, 1) := by decide +kernel
theorem dX4_checkPile_2 : decode cX4_checkPile 2 = .ok (.aload_n 0, 1) := by decide +kernel
theorem dX4_checkPile_3 : decode cX4_checkPile 3 = .ok (.getfield 36, 3) := by decide +kernel
theorem dX4_checkPile_6 : decode cX4_checkPile 6 = .ok (.getfield 50, 3) := by decide +kernel
theorem dX4_checkPile_9 : decode cX4_checkPile 9 = .ok (.iconst 1, 1) := by decide +kernel
theorem dX4_checkPile_10 : decode cX4_checkPile 10 = .ok (.isub, 1) := by decide +kernel
theorem dX4_checkPile_11 : decode cX4_checkPile 11 = .ok (.invokestatic 188, 3) := by decide +kernel
theorem dX4_checkPile_14 : decode cX4_checkPile 14 = .ok (.ifCond .eq 14, 3) := by decide +kernel
theorem dX4_checkPile_17 : decode cX4_checkPile 17 = .ok (.new 183, 3) := by decide +kernel
theorem dX4_checkPile_20 : decode cX4_checkPile 20 = .ok (.dup, 1) := by decide +kernel
theorem dX4_checkPile_21 : decode cX4_checkPile 21 = .ok (.ldc_w 275, 3) := by decide +kernel
theorem dX4_checkPile_24 : decode cX4_checkPile 24 = .ok (.invokespecial 187, 3) := by decide +kernel
theorem dX4_checkPile_27 : decode cX4_checkPile 27 = .ok (.athrow, 1) := by decide +kernel
theorem dX4_checkPile_28 : decode cX4_checkPile 28 = .ok (.return_, 1) := by decide +kernel
set_option maxRecDepth 20000 in
theorem ggX4_checkCat_X4_isOutside : GoodIn wsX4_checkCat wsX4_isOutside := goodIn_r _ [8] (by decide +kernel) (by decide +kernel)
set_option maxRecDepth 20000 in
theorem gX4_checkCat_X4_isOutside : GoodIn wsX4_checkCat (va_wsS RX4 188 yX4_isOutside wsX4_isOutside) := goodIn_app (goodIn_of _ (by decide +kernel)) ggX4_checkCat_X4_isOutside
theorem dX4_checkCat_0 : decode cX4_checkCat 0 = .ok (.iload_n 1, 1) := by decide +kernel
theorem dX4_checkCat_1 : decode cX4_checkCat 1 = .ok (.iconst 0, 1) := by decide +kernel
theorem dX4_checkCat_2 : decode cX4_checkCat 2 = .ok (.aload_n 0, 1) := by decide +kernel
theorem dX4_checkCat_3 : decode cX4_checkCat 3 = .ok (.getfield 36, 3) := by decide +kernel
theorem dX4_checkCat_6 : decode cX4_checkCat 6 = .ok (.getfield 71, 3) := by decide +kernel
theorem dX4_checkCat_9 : decode cX4_checkCat 9 = .ok (.iconst 1, 1) := by decide +kernel
theorem dX4_checkCat_10 : decode cX4_checkCat 10 = .ok (.isub, 1) := by decide +kernel
theorem dX4_checkCat_11 : decode cX4_checkCat 11 = .ok (.invokestatic 188, 3) := by decide +kernel
theorem dX4_checkCat_14 : decode cX4_checkCat 14 = .ok (.ifCond .eq 14, 3) := by decide +kernel
theorem dX4_checkCat_17 : decode cX4_checkCat 17 = .ok (.new 183, 3) := by decide +kernel
theorem dX4_checkCat_20 : decode cX4_checkCat 20 = .ok (.dup, 1) := by decide +kernel
theorem dX4_checkCat_21 : decode cX4_checkCat 21 = .ok (.ldc_w 277, 3) := by decide +kernel
theorem dX4_checkCat_24 : decode cX4_checkCat 24 = .ok (.invokespecial 187, 3) := by decide +kernel
theorem dX4_checkCat_27 : decode cX4_checkCat 27 = .ok (.athrow, 1) := by decide +kernel
theorem dX4_checkCat_28 : decode cX4_checkCat 28 = .ok (.return_, 1) := by decide +kernel
set_option maxRecDepth 20000 in
theorem ggX4_checkCalibre_X4_isOutside : GoodIn wsX4_checkCalibre wsX4_isOutside := goodIn_r _ [6] (by decide +kernel) (by decide +kernel)
set_option maxRecDepth 20000 in
theorem gX4_checkCalibre_X4_isOutside : GoodIn wsX4_checkCalibre (va_wsS RX4 188 yX4_isOutside wsX4_isOutside) := goodIn_app (goodIn_of _ (by decide +kernel)) ggX4_checkCalibre_X4_isOutside
theorem dX4_checkCalibre_0 : decode cX4_checkCalibre 0 = .ok (.iload_n 0, 1) := by decide +kernel
theorem dX4_checkCalibre_1 : decode cX4_checkCalibre 1 = .ok (.iconst 0, 1) := by decide +kernel
theorem dX4_checkCalibre_2 : decode cX4_checkCalibre 2 = .ok (.iconst 4, 1) := by decide +kernel
theorem dX4_checkCalibre_3 : decode cX4_checkCalibre 3 = .ok (.invokestatic 188, 3) := by decide +kernel
theorem dX4_checkCalibre_6 : decode cX4_checkCalibre 6 = .ok (.ifCond .eq 14, 3) := by decide +kernel
theorem dX4_checkCalibre_9 : decode cX4_checkCalibre 9 = .ok (.new 183, 3) := by decide +kernel
theorem dX4_checkCalibre_12 : decode cX4_checkCalibre 12 = .ok (.dup, 1) := by decide +kernel
theorem dX4_checkCalibre_13 : decode cX4_checkCalibre 13 = .ok (.ldc_w 279, 3) := by decide +kernel
theorem dX4_checkCalibre_16 : decode cX4_checkCalibre 16 = .ok (.invokespecial 187, 3) := by decide +kernel
theorem dX4_checkCalibre_19 : decode cX4_checkCalibre 19 = .ok (.athrow, 1) := by decide +kernel
theorem dX4_checkCalibre_20 : decode cX4_checkCalibre 20 = .ok (.return_, 1) := by decide +kernel
set_option maxRecDepth 20000 in
theorem ggX4_checkArgument_X4_isOutside : GoodIn wsX4_checkArgument wsX4_isOutside := goodIn_r _ [6] (by decide +kernel) (by decide +kernel)
set_option maxRecDepth 20000 in
theorem gX4_checkArgument_X4_isOutside : GoodIn wsX4_checkArgument (va_wsS RX4 188 yX4_isOutside wsX4_isOutside) := goodIn_app (goodIn_of _ (by decide +kernel)) ggX4_checkArgument_X4_isOutside
theorem dX4_checkArgument_0 : decode cX4_checkArgument 0 = .ok (.iload_n 0, 1) := by decide +kernel
theorem dX4_checkArgument_1 : decode cX4_checkArgument 1 = .ok (.iload_n 1, 1) := by decide +kernel
theorem dX4_checkArgument_2 : decode cX4_checkArgument 2 = .ok (.iload_n 2, 1) := by decide +kernel
theorem dX4_checkArgument_3 : decode cX4_checkArgument 3 = .ok (.invokestatic 188, 3) := by decide +kernel
theorem dX4_checkArgument_6 : decode cX4_checkArgument 6 = .ok (.ifCond .eq 14, 3) := by decide +kernel
theorem dX4_checkArgument_9 : decode cX4_checkArgument 9 = .ok (.new 130, 3) := by decide +kernel
theorem dX4_checkArgument_12 : decode cX4_checkArgument 12 = .ok (.dup, 1) := by decide +kernel
theorem dX4_checkArgument_13 : decode cX4_checkArgument 13 = .ok (.ldc_w 281, 3) := by decide +kernel
theorem dX4_checkArgument_16 : decode cX4_checkArgument 16 = .ok (.invokespecial 134, 3) := by decide +kernel
theorem dX4_checkArgument_19 : decode cX4_checkArgument 19 = .ok (.athrow, 1) := by decide +kernel
theorem dX4_checkArgument_20 : decode cX4_checkArgument 20 = .ok (.return_, 1) := by decide +kernel
theorem dX4_isOutside_0 : decode cX4_isOutside 0 = .ok (.iload_n 0, 1) := by decide +kernel
theorem dX4_isOutside_1 : decode cX4_isOutside 1 = .ok (.iload_n 1, 1) := by decide +kernel
theorem dX4_isOutside_2 : decode cX4_isOutside 2 = .ok (.if_icmp .lt 8, 3) := by decide +kernel
theorem dX4_isOutside_5 : decode cX4_isOutside 5 = .ok (.iload_n 0, 1) := by decide +kernel
theorem dX4_isOutside_6 : decode cX4_isOutside 6 = .ok (.iload_n 2, 1) := by decide +kernel
theorem dX4_isOutside_7 : decode cX4_isOutside 7 = .ok (.if_icmp .le 7, 3) := by decide +kernel
theorem dX4_isOutside_10 : decode cX4_isOutside 10 = .ok (.iconst 1, 1) := by decide +kernel
theorem dX4_isOutside_11 : decode cX4_isOutside 11 = .ok (.goto 4, 3) := by decide +kernel
theorem dX4_isOutside_14 : decode cX4_isOutside 14 = .ok (.iconst 0, 1) := by decide +kernel
theorem dX4_isOutside_15 : decode cX4_isOutside 15 = .ok (.ireturn, 1) := by decide +kernel
